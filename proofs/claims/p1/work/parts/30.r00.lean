set_option maxHeartbeats 4000000 in
set_option maxRecDepth 100000 in
/-- TongueHouseModel.four on a new object -/
theorem c_X13_four (l : Launch) (D : va_G) (cy : Nat → ClassId) (sz : Nat) (L : List Nat) (f : Nat → va_E) {w10 w13 w14 w15 w16 w17 w18 w19 w59 w115 : Nat} (m0 w56 : Nat) (F_m0 : List Value) (g_w56 : Nat → Int32) (n1 : Int32) (hC : pq_C L f [(m0, .inr (13, F_m0)), (w56, .inl (cy 0, 1000, .inl g_w56))]) (E_m0 : pq_E 229 F_m0 [(0, .int 0), (1, .int 0), (2, .int 0), (3, .int 0), (4, .int 0), (5, .int 0), (6, .int (-1)), (16, .ref w10), (19, .ref w13), (20, .ref w14), (21, .ref w15), (22, .ref w16), (23, .ref w17), (24, .ref w18), (25, .ref w19), (42, .int 0), (59, .int 0), (64, .int 0), (65, .ref w56), (68, .int 0), (69, .int 0), (70, .int 0), (71, .int 0), (72, .int 0), (73, .int 0), (74, .int 0), (75, .long 0), (76, .int 0), (79, .int 0), (97, .ref w59), (99, .int 0), (100, .int 0), (132, .int 0), (136, .int 0), (179, .int 0), (180, .int 0), (181, .long 0), (186, .int 0), (188, .int 0), (190, .ref w115), (201, .int 0), (206, .int 0), (211, .int 0)]) : Met l yX13_four (Cond.code yX13_four cX13_four 3 none :: pp_ws) ({ frames := 0, cells := 0, slots := 0, locals := 0 }) (pw_Pc D cy [.ref m0, .int n1] sz L f) (pq_Qv D sz L f [m0, w56] (fun cs1 => (∃ (F_m0 : List Value) (g_w56 : Nat → Int32), cs1 = [(m0, .inr (13, F_m0)), (w56, .inl (cy 0, 1000, .inl g_w56))] ∧ pq_E 229 F_m0 [(0, .int 0), (1, .int 0), (2, .int 0), (3, .int 0), (4, .int 0), (5, .int 0), (6, .int (-1)), (16, .ref w10), (19, .ref w13), (20, .ref w14), (21, .ref w15), (22, .ref w16), (23, .ref w17), (24, .ref w18), (25, .ref w19), (42, .int 0), (59, .int 0), (64, .int 0), (65, .ref w56), (68, .int 4), (69, .int 0), (70, .int 0), (71, .int 0), (72, .int 0), (73, .int 0), (74, .int 0), (75, .long 0), (76, .int 0), (79, .int 0), (97, .ref w59), (99, .int 0), (100, .int 0), (132, .int 0), (136, .int 0), (179, .int 0), (180, .int 0), (181, .long 0), (186, .int 0), (188, .int 0), (190, .ref w115), (201, .int 0), (206, .int 0), (211, .int 0)]))) 0 0 (pw_A L f sz) := by
  refine Met.ofW (cc := cX13_four) (maxL := 3) (ret := none) (by decide) rfl ?_
  intro p e s m args below meth c s₁ B hml hv
  obtain ⟨rfl, hsz, hG, hP, hD0⟩ := hv
  have hx := B.exec
  have hb := B.bytes
  have hr := B.returns
  have hts := atoms_spec (ws := Cond.code yX13_four cX13_four 3 none :: pp_ws) B.pre
  have hpp := fun (w : Cond) (h : w ∈ pp_ws) => hts w (List.mem_cons_of_mem _ h)
  have hown : s.vm.findClass RX13 = some m.cls := findClass_of_methodNamed B.named
  have hlocks := B.notSynchronized
  have hw := pw_start (cy := cy) hsz hP hD0
  have hW := pq_start (as := [m0, w56]) hw hC rfl
  have hl := lv_entry ([.ref m0, .int n1]) (n := 3) (Nat.le_of_ble_eq_true rfl)
  rw [lg_entry_eq]
  generalize (lg_sl ([.ref m0, .int n1]) ++ List.replicate (3 - (lg_sl ([.ref m0, .int n1])).length) Slot.unset).toArray = ls at hl ⊢
  have hl : lv_has ls 3 [(0, .ref m0), (1, .int n1)] := hl
  refine lv_bipush (v := 24) hx hb dX13_four_0 (by decide) ?_
  refine lv_istore_n (lv' := [(2, .int 24), (0, .ref m0), (1, .int n1)]) hx hb dX13_four_2 rfl hl (by decide) rfl (fun ls hl => ?_)
  refine lv_iload_n hx hb dX13_four_3 rfl (lv_at hl 0 rfl) ?_
  refine lv_if_lt (tgt := 33) hx hb dX13_four_4 (by decide) (fun c9 => absurd c9 (by decide)) (fun _ => ?_)
  refine lv_aload_n hx hb dX13_four_7 rfl (lv_at hl 1 rfl) ?_
  refine pq_get (own := RX13) (ci := 13) (C := RX13) (T := TX13) (N := 229) (k := 65) (v := .ref w56) hx hb hpp pi13 rfl hown hG hW 0 rfl E_m0 18 rfl (by decide) pp15 dX13_four_8 ?_
  refine lv_aload_n hx hb dX13_four_11 rfl (lv_at hl 1 rfl) ?_
  refine lv_dup hx hb dX13_four_12 rfl ?_
  refine pq_get (own := RX13) (ci := 13) (C := RX13) (T := TX13) (N := 229) (k := 68) (v := .int 0) hx hb hpp pi13 rfl hown hG hW 0 rfl E_m0 19 rfl (by decide) pp14 dX13_four_13 ?_
  refine lv_dup_x1 hx hb dX13_four_16 rfl rfl ?_
  refine lv_iconst (v := 1) hx hb dX13_four_17 (by decide) ?_
  refine lv_iadd hx hb dX13_four_18 ?_
  refine pq_topi (y := 1) (by decide) ?_
  refine pq_put (own := RX13) (ci := 13) (C := RX13) (T := TX13) (N := 229) (kv' := [(0, .int 0), (1, .int 0), (2, .int 0), (3, .int 0), (4, .int 0), (5, .int 0), (6, .int (-1)), (16, .ref w10), (19, .ref w13), (20, .ref w14), (21, .ref w15), (22, .ref w16), (23, .ref w17), (24, .ref w18), (25, .ref w19), (42, .int 0), (59, .int 0), (64, .int 0), (65, .ref w56), (68, .int 1), (69, .int 0), (70, .int 0), (71, .int 0), (72, .int 0), (73, .int 0), (74, .int 0), (75, .long 0), (76, .int 0), (79, .int 0), (97, .ref w59), (99, .int 0), (100, .int 0), (132, .int 0), (136, .int 0), (179, .int 0), (180, .int 0), (181, .long 0), (186, .int 0), (188, .int 0), (190, .ref w115), (201, .int 0), (206, .int 0), (211, .int 0)]) hx hb hpp pi13 tyX13 tyX13_ok nmX13 rfl hown hG hW 0 rfl E_m0 68 (by decide) rfl rfl rfl rfl pp14 dX13_four_19 (fun F_m0 H locs hW E_m0 => ?_)
  have hW : pq_W D _ s.heap L f _ [(m0, .inr (13, F_m0)), (w56, .inl (cy 0, 1000, .inl g_w56))] H locs := hW
  refine lv_iload_n hx hb dX13_four_22 rfl (lv_at hl 2 rfl) ?_
  refine lv_iload_n hx hb dX13_four_23 rfl (lv_at hl 0 rfl) ?_
  refine lv_iushr hx hb dX13_four_24 rfl ?_
  refine lv_topi (fun y41 _ => ?_)
  refine lv_i2b hx hb dX13_four_25 rfl ?_
  refine lv_topi (fun y42 _ => ?_)
  refine pq_bast hx hb hG hW 1 rfl (vp_in_iff.mpr ⟨by decide, by decide⟩) dX13_four_26 (fun H locs hW => ?_)
  have hW : pq_W D _ s.heap L f _ [(m0, .inr (13, F_m0)), (w56, .inl (cy 0, 1000, .inl _))] H locs := hW
  refine lv_iinc (v := 16) (lv' := [(2, .int 16), (0, .ref m0), (1, .int n1)]) hx hb dX13_four_27 hl (k := 0) rfl (by decide) (by decide) rfl (fun ls hl => ?_)
  refine lv_goto (tgt := 3) hx hb dX13_four_30 (by decide) ?_
  refine lv_iload_n hx hb dX13_four_3 rfl (lv_at hl 0 rfl) ?_
  refine lv_if_lt (tgt := 33) hx hb dX13_four_4 (by decide) (fun c9 => absurd c9 (by decide)) (fun _ => ?_)
  refine lv_aload_n hx hb dX13_four_7 rfl (lv_at hl 1 rfl) ?_
  refine pq_get (own := RX13) (ci := 13) (C := RX13) (T := TX13) (N := 229) (k := 65) (v := .ref w56) hx hb hpp pi13 rfl hown hG hW 0 rfl E_m0 18 rfl (by decide) pp15 dX13_four_8 ?_
  refine lv_aload_n hx hb dX13_four_11 rfl (lv_at hl 1 rfl) ?_
  refine lv_dup hx hb dX13_four_12 rfl ?_
  refine pq_get (own := RX13) (ci := 13) (C := RX13) (T := TX13) (N := 229) (k := 68) (v := .int 1) hx hb hpp pi13 rfl hown hG hW 0 rfl E_m0 19 rfl (by decide) pp14 dX13_four_13 ?_
  refine lv_dup_x1 hx hb dX13_four_16 rfl rfl ?_
  refine lv_iconst (v := 1) hx hb dX13_four_17 (by decide) ?_
  refine lv_iadd hx hb dX13_four_18 ?_
  refine pq_topi (y := 2) (by decide) ?_
  refine pq_put (own := RX13) (ci := 13) (C := RX13) (T := TX13) (N := 229) (kv' := [(0, .int 0), (1, .int 0), (2, .int 0), (3, .int 0), (4, .int 0), (5, .int 0), (6, .int (-1)), (16, .ref w10), (19, .ref w13), (20, .ref w14), (21, .ref w15), (22, .ref w16), (23, .ref w17), (24, .ref w18), (25, .ref w19), (42, .int 0), (59, .int 0), (64, .int 0), (65, .ref w56), (68, .int 2), (69, .int 0), (70, .int 0), (71, .int 0), (72, .int 0), (73, .int 0), (74, .int 0), (75, .long 0), (76, .int 0), (79, .int 0), (97, .ref w59), (99, .int 0), (100, .int 0), (132, .int 0), (136, .int 0), (179, .int 0), (180, .int 0), (181, .long 0), (186, .int 0), (188, .int 0), (190, .ref w115), (201, .int 0), (206, .int 0), (211, .int 0)]) hx hb hpp pi13 tyX13 tyX13_ok nmX13 rfl hown hG hW 0 rfl E_m0 68 (by decide) rfl rfl rfl rfl pp14 dX13_four_19 (fun F_m0 H locs hW E_m0 => ?_)
  have hW : pq_W D _ s.heap L f _ [(m0, .inr (13, F_m0)), (w56, .inl (cy 0, 1000, .inl _))] H locs := hW
  refine lv_iload_n hx hb dX13_four_22 rfl (lv_at hl 2 rfl) ?_
  refine lv_iload_n hx hb dX13_four_23 rfl (lv_at hl 0 rfl) ?_
  refine lv_iushr hx hb dX13_four_24 rfl ?_
  refine lv_topi (fun y43 _ => ?_)
  refine lv_i2b hx hb dX13_four_25 rfl ?_
  refine lv_topi (fun y44 _ => ?_)
  refine pq_bast hx hb hG hW 1 rfl (vp_in_iff.mpr ⟨by decide, by decide⟩) dX13_four_26 (fun H locs hW => ?_)
  have hW : pq_W D _ s.heap L f _ [(m0, .inr (13, F_m0)), (w56, .inl (cy 0, 1000, .inl _))] H locs := hW
  refine lv_iinc (v := 8) (lv' := [(2, .int 8), (0, .ref m0), (1, .int n1)]) hx hb dX13_four_27 hl (k := 0) rfl (by decide) (by decide) rfl (fun ls hl => ?_)
  refine lv_goto (tgt := 3) hx hb dX13_four_30 (by decide) ?_
  refine lv_iload_n hx hb dX13_four_3 rfl (lv_at hl 0 rfl) ?_
  refine lv_if_lt (tgt := 33) hx hb dX13_four_4 (by decide) (fun c9 => absurd c9 (by decide)) (fun _ => ?_)
  refine lv_aload_n hx hb dX13_four_7 rfl (lv_at hl 1 rfl) ?_
  refine pq_get (own := RX13) (ci := 13) (C := RX13) (T := TX13) (N := 229) (k := 65) (v := .ref w56) hx hb hpp pi13 rfl hown hG hW 0 rfl E_m0 18 rfl (by decide) pp15 dX13_four_8 ?_
  refine lv_aload_n hx hb dX13_four_11 rfl (lv_at hl 1 rfl) ?_
  refine lv_dup hx hb dX13_four_12 rfl ?_
  refine pq_get (own := RX13) (ci := 13) (C := RX13) (T := TX13) (N := 229) (k := 68) (v := .int 2) hx hb hpp pi13 rfl hown hG hW 0 rfl E_m0 19 rfl (by decide) pp14 dX13_four_13 ?_
  refine lv_dup_x1 hx hb dX13_four_16 rfl rfl ?_
  refine lv_iconst (v := 1) hx hb dX13_four_17 (by decide) ?_
  refine lv_iadd hx hb dX13_four_18 ?_
  refine pq_topi (y := 3) (by decide) ?_
  refine pq_put (own := RX13) (ci := 13) (C := RX13) (T := TX13) (N := 229) (kv' := [(0, .int 0), (1, .int 0), (2, .int 0), (3, .int 0), (4, .int 0), (5, .int 0), (6, .int (-1)), (16, .ref w10), (19, .ref w13), (20, .ref w14), (21, .ref w15), (22, .ref w16), (23, .ref w17), (24, .ref w18), (25, .ref w19), (42, .int 0), (59, .int 0), (64, .int 0), (65, .ref w56), (68, .int 3), (69, .int 0), (70, .int 0), (71, .int 0), (72, .int 0), (73, .int 0), (74, .int 0), (75, .long 0), (76, .int 0), (79, .int 0), (97, .ref w59), (99, .int 0), (100, .int 0), (132, .int 0), (136, .int 0), (179, .int 0), (180, .int 0), (181, .long 0), (186, .int 0), (188, .int 0), (190, .ref w115), (201, .int 0), (206, .int 0), (211, .int 0)]) hx hb hpp pi13 tyX13 tyX13_ok nmX13 rfl hown hG hW 0 rfl E_m0 68 (by decide) rfl rfl rfl rfl pp14 dX13_four_19 (fun F_m0 H locs hW E_m0 => ?_)
  have hW : pq_W D _ s.heap L f _ [(m0, .inr (13, F_m0)), (w56, .inl (cy 0, 1000, .inl _))] H locs := hW
  refine lv_iload_n hx hb dX13_four_22 rfl (lv_at hl 2 rfl) ?_
  refine lv_iload_n hx hb dX13_four_23 rfl (lv_at hl 0 rfl) ?_
  refine lv_iushr hx hb dX13_four_24 rfl ?_
  refine lv_topi (fun y45 _ => ?_)
  refine lv_i2b hx hb dX13_four_25 rfl ?_
  refine lv_topi (fun y46 _ => ?_)
  refine pq_bast hx hb hG hW 1 rfl (vp_in_iff.mpr ⟨by decide, by decide⟩) dX13_four_26 (fun H locs hW => ?_)
  have hW : pq_W D _ s.heap L f _ [(m0, .inr (13, F_m0)), (w56, .inl (cy 0, 1000, .inl _))] H locs := hW
  refine lv_iinc (v := 0) (lv' := [(2, .int 0), (0, .ref m0), (1, .int n1)]) hx hb dX13_four_27 hl (k := 0) rfl (by decide) (by decide) rfl (fun ls hl => ?_)
  refine lv_goto (tgt := 3) hx hb dX13_four_30 (by decide) ?_
  refine lv_iload_n hx hb dX13_four_3 rfl (lv_at hl 0 rfl) ?_
  refine lv_if_lt (tgt := 33) hx hb dX13_four_4 (by decide) (fun c9 => absurd c9 (by decide)) (fun _ => ?_)
  refine lv_aload_n hx hb dX13_four_7 rfl (lv_at hl 1 rfl) ?_
  refine pq_get (own := RX13) (ci := 13) (C := RX13) (T := TX13) (N := 229) (k := 65) (v := .ref w56) hx hb hpp pi13 rfl hown hG hW 0 rfl E_m0 18 rfl (by decide) pp15 dX13_four_8 ?_
  refine lv_aload_n hx hb dX13_four_11 rfl (lv_at hl 1 rfl) ?_
  refine lv_dup hx hb dX13_four_12 rfl ?_
  refine pq_get (own := RX13) (ci := 13) (C := RX13) (T := TX13) (N := 229) (k := 68) (v := .int 3) hx hb hpp pi13 rfl hown hG hW 0 rfl E_m0 19 rfl (by decide) pp14 dX13_four_13 ?_
  refine lv_dup_x1 hx hb dX13_four_16 rfl rfl ?_
  refine lv_iconst (v := 1) hx hb dX13_four_17 (by decide) ?_
  refine lv_iadd hx hb dX13_four_18 ?_
  refine pq_topi (y := 4) (by decide) ?_
  refine pq_put (own := RX13) (ci := 13) (C := RX13) (T := TX13) (N := 229) (kv' := [(0, .int 0), (1, .int 0), (2, .int 0), (3, .int 0), (4, .int 0), (5, .int 0), (6, .int (-1)), (16, .ref w10), (19, .ref w13), (20, .ref w14), (21, .ref w15), (22, .ref w16), (23, .ref w17), (24, .ref w18), (25, .ref w19), (42, .int 0), (59, .int 0), (64, .int 0), (65, .ref w56), (68, .int 4), (69, .int 0), (70, .int 0), (71, .int 0), (72, .int 0), (73, .int 0), (74, .int 0), (75, .long 0), (76, .int 0), (79, .int 0), (97, .ref w59), (99, .int 0), (100, .int 0), (132, .int 0), (136, .int 0), (179, .int 0), (180, .int 0), (181, .long 0), (186, .int 0), (188, .int 0), (190, .ref w115), (201, .int 0), (206, .int 0), (211, .int 0)]) hx hb hpp pi13 tyX13 tyX13_ok nmX13 rfl hown hG hW 0 rfl E_m0 68 (by decide) rfl rfl rfl rfl pp14 dX13_four_19 (fun F_m0 H locs hW E_m0 => ?_)
  have hW : pq_W D _ s.heap L f _ [(m0, .inr (13, F_m0)), (w56, .inl (cy 0, 1000, .inl _))] H locs := hW
  refine lv_iload_n hx hb dX13_four_22 rfl (lv_at hl 2 rfl) ?_
  refine lv_iload_n hx hb dX13_four_23 rfl (lv_at hl 0 rfl) ?_
  refine lv_iushr hx hb dX13_four_24 rfl ?_
  refine lv_topi (fun y47 _ => ?_)
  refine lv_i2b hx hb dX13_four_25 rfl ?_
  refine lv_topi (fun y48 _ => ?_)
  refine pq_bast hx hb hG hW 1 rfl (vp_in_iff.mpr ⟨by decide, by decide⟩) dX13_four_26 (fun H locs hW => ?_)
  have hW : pq_W D _ s.heap L f _ [(m0, .inr (13, F_m0)), (w56, .inl (cy 0, 1000, .inl _))] H locs := hW
  refine lv_iinc (v := (-8)) (lv' := [(2, .int (-8)), (0, .ref m0), (1, .int n1)]) hx hb dX13_four_27 hl (k := 0) rfl (by decide) (by decide) rfl (fun ls hl => ?_)
  refine lv_goto (tgt := 3) hx hb dX13_four_30 (by decide) ?_
  refine lv_iload_n hx hb dX13_four_3 rfl (lv_at hl 0 rfl) ?_
  refine lv_if_lt (tgt := 33) hx hb dX13_four_4 (by decide) (fun _ => ?_) (fun c9 => absurd c9 (by decide))
  exact pq_vret hx hb hr hlocks hW ⟨_, _, rfl, E_m0⟩ dX13_four_33
set_option maxHeartbeats 4000000 in
set_option maxRecDepth 100000 in
/-- TongueHouseModel.four on a new object -/
theorem c_X13_four_1 (l : Launch) (D : va_G) (cy : Nat → ClassId) (sz : Nat) (L : List Nat) (f : Nat → va_E) {w10 w13 w14 w15 w16 w17 w18 w19 w59 w115 : Nat} (m0 w56 : Nat) (F_m0 : List Value) (g_w56 : Nat → Int32) (n1 : Int32) (hC : pq_C L f [(m0, .inr (13, F_m0)), (w56, .inl (cy 0, 1000, .inl g_w56))]) (E_m0 : pq_E 229 F_m0 [(0, .int 0), (1, .int 0), (2, .int 0), (3, .int 0), (4, .int 0), (5, .int 0), (6, .int (-1)), (16, .ref w10), (19, .ref w13), (20, .ref w14), (21, .ref w15), (22, .ref w16), (23, .ref w17), (24, .ref w18), (25, .ref w19), (42, .int 0), (59, .int 0), (64, .int 0), (65, .ref w56), (68, .int 4), (69, .int 0), (70, .int 0), (71, .int 0), (72, .int 0), (73, .int 0), (74, .int 0), (75, .long 0), (76, .int 0), (79, .int 0), (97, .ref w59), (99, .int 0), (100, .int 0), (132, .int 0), (136, .int 0), (179, .int 0), (180, .int 0), (181, .long 0), (186, .int 0), (188, .int 0), (190, .ref w115), (201, .int 0), (206, .int 0), (211, .int 0)]) : Met l yX13_four (Cond.code yX13_four cX13_four 3 none :: pp_ws) ({ frames := 0, cells := 0, slots := 0, locals := 0 }) (pw_Pc D cy [.ref m0, .int n1] sz L f) (pq_Qv D sz L f [m0, w56] (fun cs1 => (∃ (F_m0 : List Value) (g_w56 : Nat → Int32), cs1 = [(m0, .inr (13, F_m0)), (w56, .inl (cy 0, 1000, .inl g_w56))] ∧ pq_E 229 F_m0 [(0, .int 0), (1, .int 0), (2, .int 0), (3, .int 0), (4, .int 0), (5, .int 0), (6, .int (-1)), (16, .ref w10), (19, .ref w13), (20, .ref w14), (21, .ref w15), (22, .ref w16), (23, .ref w17), (24, .ref w18), (25, .ref w19), (42, .int 0), (59, .int 0), (64, .int 0), (65, .ref w56), (68, .int 8), (69, .int 0), (70, .int 0), (71, .int 0), (72, .int 0), (73, .int 0), (74, .int 0), (75, .long 0), (76, .int 0), (79, .int 0), (97, .ref w59), (99, .int 0), (100, .int 0), (132, .int 0), (136, .int 0), (179, .int 0), (180, .int 0), (181, .long 0), (186, .int 0), (188, .int 0), (190, .ref w115), (201, .int 0), (206, .int 0), (211, .int 0)]))) 0 0 (pw_A L f sz) := by
  refine Met.ofW (cc := cX13_four) (maxL := 3) (ret := none) (by decide) rfl ?_
  intro p e s m args below meth c s₁ B hml hv
  obtain ⟨rfl, hsz, hG, hP, hD0⟩ := hv
  have hx := B.exec
  have hb := B.bytes
  have hr := B.returns
  have hts := atoms_spec (ws := Cond.code yX13_four cX13_four 3 none :: pp_ws) B.pre
  have hpp := fun (w : Cond) (h : w ∈ pp_ws) => hts w (List.mem_cons_of_mem _ h)
  have hown : s.vm.findClass RX13 = some m.cls := findClass_of_methodNamed B.named
  have hlocks := B.notSynchronized
  have hw := pw_start (cy := cy) hsz hP hD0
  have hW := pq_start (as := [m0, w56]) hw hC rfl
  have hl := lv_entry ([.ref m0, .int n1]) (n := 3) (Nat.le_of_ble_eq_true rfl)
  rw [lg_entry_eq]
  generalize (lg_sl ([.ref m0, .int n1]) ++ List.replicate (3 - (lg_sl ([.ref m0, .int n1])).length) Slot.unset).toArray = ls at hl ⊢
  have hl : lv_has ls 3 [(0, .ref m0), (1, .int n1)] := hl
  refine lv_bipush (v := 24) hx hb dX13_four_0 (by decide) ?_
  refine lv_istore_n (lv' := [(2, .int 24), (0, .ref m0), (1, .int n1)]) hx hb dX13_four_2 rfl hl (by decide) rfl (fun ls hl => ?_)
  refine lv_iload_n hx hb dX13_four_3 rfl (lv_at hl 0 rfl) ?_
  refine lv_if_lt (tgt := 33) hx hb dX13_four_4 (by decide) (fun c9 => absurd c9 (by decide)) (fun _ => ?_)
  refine lv_aload_n hx hb dX13_four_7 rfl (lv_at hl 1 rfl) ?_
  refine pq_get (own := RX13) (ci := 13) (C := RX13) (T := TX13) (N := 229) (k := 65) (v := .ref w56) hx hb hpp pi13 rfl hown hG hW 0 rfl E_m0 18 rfl (by decide) pp15 dX13_four_8 ?_
  refine lv_aload_n hx hb dX13_four_11 rfl (lv_at hl 1 rfl) ?_
  refine lv_dup hx hb dX13_four_12 rfl ?_
  refine pq_get (own := RX13) (ci := 13) (C := RX13) (T := TX13) (N := 229) (k := 68) (v := .int 4) hx hb hpp pi13 rfl hown hG hW 0 rfl E_m0 19 rfl (by decide) pp14 dX13_four_13 ?_
  refine lv_dup_x1 hx hb dX13_four_16 rfl rfl ?_
  refine lv_iconst (v := 1) hx hb dX13_four_17 (by decide) ?_
  refine lv_iadd hx hb dX13_four_18 ?_
  refine pq_topi (y := 5) (by decide) ?_
  refine pq_put (own := RX13) (ci := 13) (C := RX13) (T := TX13) (N := 229) (kv' := [(0, .int 0), (1, .int 0), (2, .int 0), (3, .int 0), (4, .int 0), (5, .int 0), (6, .int (-1)), (16, .ref w10), (19, .ref w13), (20, .ref w14), (21, .ref w15), (22, .ref w16), (23, .ref w17), (24, .ref w18), (25, .ref w19), (42, .int 0), (59, .int 0), (64, .int 0), (65, .ref w56), (68, .int 5), (69, .int 0), (70, .int 0), (71, .int 0), (72, .int 0), (73, .int 0), (74, .int 0), (75, .long 0), (76, .int 0), (79, .int 0), (97, .ref w59), (99, .int 0), (100, .int 0), (132, .int 0), (136, .int 0), (179, .int 0), (180, .int 0), (181, .long 0), (186, .int 0), (188, .int 0), (190, .ref w115), (201, .int 0), (206, .int 0), (211, .int 0)]) hx hb hpp pi13 tyX13 tyX13_ok nmX13 rfl hown hG hW 0 rfl E_m0 68 (by decide) rfl rfl rfl rfl pp14 dX13_four_19 (fun F_m0 H locs hW E_m0 => ?_)
  have hW : pq_W D _ s.heap L f _ [(m0, .inr (13, F_m0)), (w56, .inl (cy 0, 1000, .inl _))] H locs := hW
  refine lv_iload_n hx hb dX13_four_22 rfl (lv_at hl 2 rfl) ?_
  refine lv_iload_n hx hb dX13_four_23 rfl (lv_at hl 0 rfl) ?_
  refine lv_iushr hx hb dX13_four_24 rfl ?_
  refine lv_topi (fun y57 _ => ?_)
  refine lv_i2b hx hb dX13_four_25 rfl ?_
  refine lv_topi (fun y58 _ => ?_)
  refine pq_bast hx hb hG hW 1 rfl (vp_in_iff.mpr ⟨by decide, by decide⟩) dX13_four_26 (fun H locs hW => ?_)
  have hW : pq_W D _ s.heap L f _ [(m0, .inr (13, F_m0)), (w56, .inl (cy 0, 1000, .inl _))] H locs := hW
  refine lv_iinc (v := 16) (lv' := [(2, .int 16), (0, .ref m0), (1, .int n1)]) hx hb dX13_four_27 hl (k := 0) rfl (by decide) (by decide) rfl (fun ls hl => ?_)
  refine lv_goto (tgt := 3) hx hb dX13_four_30 (by decide) ?_
  refine lv_iload_n hx hb dX13_four_3 rfl (lv_at hl 0 rfl) ?_
  refine lv_if_lt (tgt := 33) hx hb dX13_four_4 (by decide) (fun c9 => absurd c9 (by decide)) (fun _ => ?_)
  refine lv_aload_n hx hb dX13_four_7 rfl (lv_at hl 1 rfl) ?_
  refine pq_get (own := RX13) (ci := 13) (C := RX13) (T := TX13) (N := 229) (k := 65) (v := .ref w56) hx hb hpp pi13 rfl hown hG hW 0 rfl E_m0 18 rfl (by decide) pp15 dX13_four_8 ?_
  refine lv_aload_n hx hb dX13_four_11 rfl (lv_at hl 1 rfl) ?_
  refine lv_dup hx hb dX13_four_12 rfl ?_
  refine pq_get (own := RX13) (ci := 13) (C := RX13) (T := TX13) (N := 229) (k := 68) (v := .int 5) hx hb hpp pi13 rfl hown hG hW 0 rfl E_m0 19 rfl (by decide) pp14 dX13_four_13 ?_
  refine lv_dup_x1 hx hb dX13_four_16 rfl rfl ?_
  refine lv_iconst (v := 1) hx hb dX13_four_17 (by decide) ?_
  refine lv_iadd hx hb dX13_four_18 ?_
  refine pq_topi (y := 6) (by decide) ?_
  refine pq_put (own := RX13) (ci := 13) (C := RX13) (T := TX13) (N := 229) (kv' := [(0, .int 0), (1, .int 0), (2, .int 0), (3, .int 0), (4, .int 0), (5, .int 0), (6, .int (-1)), (16, .ref w10), (19, .ref w13), (20, .ref w14), (21, .ref w15), (22, .ref w16), (23, .ref w17), (24, .ref w18), (25, .ref w19), (42, .int 0), (59, .int 0), (64, .int 0), (65, .ref w56), (68, .int 6), (69, .int 0), (70, .int 0), (71, .int 0), (72, .int 0), (73, .int 0), (74, .int 0), (75, .long 0), (76, .int 0), (79, .int 0), (97, .ref w59), (99, .int 0), (100, .int 0), (132, .int 0), (136, .int 0), (179, .int 0), (180, .int 0), (181, .long 0), (186, .int 0), (188, .int 0), (190, .ref w115), (201, .int 0), (206, .int 0), (211, .int 0)]) hx hb hpp pi13 tyX13 tyX13_ok nmX13 rfl hown hG hW 0 rfl E_m0 68 (by decide) rfl rfl rfl rfl pp14 dX13_four_19 (fun F_m0 H locs hW E_m0 => ?_)
  have hW : pq_W D _ s.heap L f _ [(m0, .inr (13, F_m0)), (w56, .inl (cy 0, 1000, .inl _))] H locs := hW
  refine lv_iload_n hx hb dX13_four_22 rfl (lv_at hl 2 rfl) ?_
  refine lv_iload_n hx hb dX13_four_23 rfl (lv_at hl 0 rfl) ?_
  refine lv_iushr hx hb dX13_four_24 rfl ?_
  refine lv_topi (fun y59 _ => ?_)
  refine lv_i2b hx hb dX13_four_25 rfl ?_
  refine lv_topi (fun y60 _ => ?_)
  refine pq_bast hx hb hG hW 1 rfl (vp_in_iff.mpr ⟨by decide, by decide⟩) dX13_four_26 (fun H locs hW => ?_)
  have hW : pq_W D _ s.heap L f _ [(m0, .inr (13, F_m0)), (w56, .inl (cy 0, 1000, .inl _))] H locs := hW
  refine lv_iinc (v := 8) (lv' := [(2, .int 8), (0, .ref m0), (1, .int n1)]) hx hb dX13_four_27 hl (k := 0) rfl (by decide) (by decide) rfl (fun ls hl => ?_)
  refine lv_goto (tgt := 3) hx hb dX13_four_30 (by decide) ?_
  refine lv_iload_n hx hb dX13_four_3 rfl (lv_at hl 0 rfl) ?_
  refine lv_if_lt (tgt := 33) hx hb dX13_four_4 (by decide) (fun c9 => absurd c9 (by decide)) (fun _ => ?_)
  refine lv_aload_n hx hb dX13_four_7 rfl (lv_at hl 1 rfl) ?_
  refine pq_get (own := RX13) (ci := 13) (C := RX13) (T := TX13) (N := 229) (k := 65) (v := .ref w56) hx hb hpp pi13 rfl hown hG hW 0 rfl E_m0 18 rfl (by decide) pp15 dX13_four_8 ?_
  refine lv_aload_n hx hb dX13_four_11 rfl (lv_at hl 1 rfl) ?_
  refine lv_dup hx hb dX13_four_12 rfl ?_
  refine pq_get (own := RX13) (ci := 13) (C := RX13) (T := TX13) (N := 229) (k := 68) (v := .int 6) hx hb hpp pi13 rfl hown hG hW 0 rfl E_m0 19 rfl (by decide) pp14 dX13_four_13 ?_
  refine lv_dup_x1 hx hb dX13_four_16 rfl rfl ?_
  refine lv_iconst (v := 1) hx hb dX13_four_17 (by decide) ?_
  refine lv_iadd hx hb dX13_four_18 ?_
  refine pq_topi (y := 7) (by decide) ?_
  refine pq_put (own := RX13) (ci := 13) (C := RX13) (T := TX13) (N := 229) (kv' := [(0, .int 0), (1, .int 0), (2, .int 0), (3, .int 0), (4, .int 0), (5, .int 0), (6, .int (-1)), (16, .ref w10), (19, .ref w13), (20, .ref w14), (21, .ref w15), (22, .ref w16), (23, .ref w17), (24, .ref w18), (25, .ref w19), (42, .int 0), (59, .int 0), (64, .int 0), (65, .ref w56), (68, .int 7), (69, .int 0), (70, .int 0), (71, .int 0), (72, .int 0), (73, .int 0), (74, .int 0), (75, .long 0), (76, .int 0), (79, .int 0), (97, .ref w59), (99, .int 0), (100, .int 0), (132, .int 0), (136, .int 0), (179, .int 0), (180, .int 0), (181, .long 0), (186, .int 0), (188, .int 0), (190, .ref w115), (201, .int 0), (206, .int 0), (211, .int 0)]) hx hb hpp pi13 tyX13 tyX13_ok nmX13 rfl hown hG hW 0 rfl E_m0 68 (by decide) rfl rfl rfl rfl pp14 dX13_four_19 (fun F_m0 H locs hW E_m0 => ?_)
  have hW : pq_W D _ s.heap L f _ [(m0, .inr (13, F_m0)), (w56, .inl (cy 0, 1000, .inl _))] H locs := hW
  refine lv_iload_n hx hb dX13_four_22 rfl (lv_at hl 2 rfl) ?_
  refine lv_iload_n hx hb dX13_four_23 rfl (lv_at hl 0 rfl) ?_
  refine lv_iushr hx hb dX13_four_24 rfl ?_
  refine lv_topi (fun y61 _ => ?_)
  refine lv_i2b hx hb dX13_four_25 rfl ?_
  refine lv_topi (fun y62 _ => ?_)
  refine pq_bast hx hb hG hW 1 rfl (vp_in_iff.mpr ⟨by decide, by decide⟩) dX13_four_26 (fun H locs hW => ?_)
  have hW : pq_W D _ s.heap L f _ [(m0, .inr (13, F_m0)), (w56, .inl (cy 0, 1000, .inl _))] H locs := hW
  refine lv_iinc (v := 0) (lv' := [(2, .int 0), (0, .ref m0), (1, .int n1)]) hx hb dX13_four_27 hl (k := 0) rfl (by decide) (by decide) rfl (fun ls hl => ?_)
  refine lv_goto (tgt := 3) hx hb dX13_four_30 (by decide) ?_
  refine lv_iload_n hx hb dX13_four_3 rfl (lv_at hl 0 rfl) ?_
  refine lv_if_lt (tgt := 33) hx hb dX13_four_4 (by decide) (fun c9 => absurd c9 (by decide)) (fun _ => ?_)
  refine lv_aload_n hx hb dX13_four_7 rfl (lv_at hl 1 rfl) ?_
  refine pq_get (own := RX13) (ci := 13) (C := RX13) (T := TX13) (N := 229) (k := 65) (v := .ref w56) hx hb hpp pi13 rfl hown hG hW 0 rfl E_m0 18 rfl (by decide) pp15 dX13_four_8 ?_
  refine lv_aload_n hx hb dX13_four_11 rfl (lv_at hl 1 rfl) ?_
  refine lv_dup hx hb dX13_four_12 rfl ?_
  refine pq_get (own := RX13) (ci := 13) (C := RX13) (T := TX13) (N := 229) (k := 68) (v := .int 7) hx hb hpp pi13 rfl hown hG hW 0 rfl E_m0 19 rfl (by decide) pp14 dX13_four_13 ?_
  refine lv_dup_x1 hx hb dX13_four_16 rfl rfl ?_
  refine lv_iconst (v := 1) hx hb dX13_four_17 (by decide) ?_
  refine lv_iadd hx hb dX13_four_18 ?_
  refine pq_topi (y := 8) (by decide) ?_
  refine pq_put (own := RX13) (ci := 13) (C := RX13) (T := TX13) (N := 229) (kv' := [(0, .int 0), (1, .int 0), (2, .int 0), (3, .int 0), (4, .int 0), (5, .int 0), (6, .int (-1)), (16, .ref w10), (19, .ref w13), (20, .ref w14), (21, .ref w15), (22, .ref w16), (23, .ref w17), (24, .ref w18), (25, .ref w19), (42, .int 0), (59, .int 0), (64, .int 0), (65, .ref w56), (68, .int 8), (69, .int 0), (70, .int 0), (71, .int 0), (72, .int 0), (73, .int 0), (74, .int 0), (75, .long 0), (76, .int 0), (79, .int 0), (97, .ref w59), (99, .int 0), (100, .int 0), (132, .int 0), (136, .int 0), (179, .int 0), (180, .int 0), (181, .long 0), (186, .int 0), (188, .int 0), (190, .ref w115), (201, .int 0), (206, .int 0), (211, .int 0)]) hx hb hpp pi13 tyX13 tyX13_ok nmX13 rfl hown hG hW 0 rfl E_m0 68 (by decide) rfl rfl rfl rfl pp14 dX13_four_19 (fun F_m0 H locs hW E_m0 => ?_)
  have hW : pq_W D _ s.heap L f _ [(m0, .inr (13, F_m0)), (w56, .inl (cy 0, 1000, .inl _))] H locs := hW
  refine lv_iload_n hx hb dX13_four_22 rfl (lv_at hl 2 rfl) ?_
  refine lv_iload_n hx hb dX13_four_23 rfl (lv_at hl 0 rfl) ?_
  refine lv_iushr hx hb dX13_four_24 rfl ?_
  refine lv_topi (fun y63 _ => ?_)
  refine lv_i2b hx hb dX13_four_25 rfl ?_
  refine lv_topi (fun y64 _ => ?_)
  refine pq_bast hx hb hG hW 1 rfl (vp_in_iff.mpr ⟨by decide, by decide⟩) dX13_four_26 (fun H locs hW => ?_)
  have hW : pq_W D _ s.heap L f _ [(m0, .inr (13, F_m0)), (w56, .inl (cy 0, 1000, .inl _))] H locs := hW
  refine lv_iinc (v := (-8)) (lv' := [(2, .int (-8)), (0, .ref m0), (1, .int n1)]) hx hb dX13_four_27 hl (k := 0) rfl (by decide) (by decide) rfl (fun ls hl => ?_)
  refine lv_goto (tgt := 3) hx hb dX13_four_30 (by decide) ?_
  refine lv_iload_n hx hb dX13_four_3 rfl (lv_at hl 0 rfl) ?_
  refine lv_if_lt (tgt := 33) hx hb dX13_four_4 (by decide) (fun _ => ?_) (fun c9 => absurd c9 (by decide))
  exact pq_vret hx hb hr hlocks hW ⟨_, _, rfl, E_m0⟩ dX13_four_33
set_option maxHeartbeats 4000000 in
set_option maxRecDepth 100000 in
/-- TongueHouseModel.four on a new object -/
theorem c_X13_four_2 (l : Launch) (D : va_G) (cy : Nat → ClassId) (sz : Nat) (L : List Nat) (f : Nat → va_E) {w10 w13 w14 w15 w16 w17 w18 w19 w59 w115 : Nat} (m0 w56 : Nat) (F_m0 : List Value) (g_w56 : Nat → Int32) (n1 : Int32) (hC : pq_C L f [(m0, .inr (13, F_m0)), (w56, .inl (cy 0, 1000, .inl g_w56))]) (E_m0 : pq_E 229 F_m0 [(0, .int 0), (1, .int 0), (2, .int 0), (3, .int 0), (4, .int 0), (5, .int 0), (6, .int (-1)), (16, .ref w10), (19, .ref w13), (20, .ref w14), (21, .ref w15), (22, .ref w16), (23, .ref w17), (24, .ref w18), (25, .ref w19), (42, .int 0), (59, .int 0), (64, .int 0), (65, .ref w56), (68, .int 8), (69, .int 0), (70, .int 0), (71, .int 0), (72, .int 0), (73, .int 0), (74, .int 0), (75, .long 0), (76, .int 0), (79, .int 0), (97, .ref w59), (99, .int 0), (100, .int 0), (132, .int 0), (136, .int 0), (179, .int 0), (180, .int 0), (181, .long 0), (186, .int 0), (188, .int 0), (190, .ref w115), (201, .int 0), (206, .int 0), (211, .int 0)]) : Met l yX13_four (Cond.code yX13_four cX13_four 3 none :: pp_ws) ({ frames := 0, cells := 0, slots := 0, locals := 0 }) (pw_Pc D cy [.ref m0, .int n1] sz L f) (pq_Qv D sz L f [m0, w56] (fun cs1 => (∃ (F_m0 : List Value) (g_w56 : Nat → Int32), cs1 = [(m0, .inr (13, F_m0)), (w56, .inl (cy 0, 1000, .inl g_w56))] ∧ pq_E 229 F_m0 [(0, .int 0), (1, .int 0), (2, .int 0), (3, .int 0), (4, .int 0), (5, .int 0), (6, .int (-1)), (16, .ref w10), (19, .ref w13), (20, .ref w14), (21, .ref w15), (22, .ref w16), (23, .ref w17), (24, .ref w18), (25, .ref w19), (42, .int 0), (59, .int 0), (64, .int 0), (65, .ref w56), (68, .int 12), (69, .int 0), (70, .int 0), (71, .int 0), (72, .int 0), (73, .int 0), (74, .int 0), (75, .long 0), (76, .int 0), (79, .int 0), (97, .ref w59), (99, .int 0), (100, .int 0), (132, .int 0), (136, .int 0), (179, .int 0), (180, .int 0), (181, .long 0), (186, .int 0), (188, .int 0), (190, .ref w115), (201, .int 0), (206, .int 0), (211, .int 0)]))) 0 0 (pw_A L f sz) := by
  refine Met.ofW (cc := cX13_four) (maxL := 3) (ret := none) (by decide) rfl ?_
  intro p e s m args below meth c s₁ B hml hv
  obtain ⟨rfl, hsz, hG, hP, hD0⟩ := hv
  have hx := B.exec
  have hb := B.bytes
  have hr := B.returns
  have hts := atoms_spec (ws := Cond.code yX13_four cX13_four 3 none :: pp_ws) B.pre
  have hpp := fun (w : Cond) (h : w ∈ pp_ws) => hts w (List.mem_cons_of_mem _ h)
  have hown : s.vm.findClass RX13 = some m.cls := findClass_of_methodNamed B.named
  have hlocks := B.notSynchronized
  have hw := pw_start (cy := cy) hsz hP hD0
  have hW := pq_start (as := [m0, w56]) hw hC rfl
  have hl := lv_entry ([.ref m0, .int n1]) (n := 3) (Nat.le_of_ble_eq_true rfl)
  rw [lg_entry_eq]
  generalize (lg_sl ([.ref m0, .int n1]) ++ List.replicate (3 - (lg_sl ([.ref m0, .int n1])).length) Slot.unset).toArray = ls at hl ⊢
  have hl : lv_has ls 3 [(0, .ref m0), (1, .int n1)] := hl
  refine lv_bipush (v := 24) hx hb dX13_four_0 (by decide) ?_
  refine lv_istore_n (lv' := [(2, .int 24), (0, .ref m0), (1, .int n1)]) hx hb dX13_four_2 rfl hl (by decide) rfl (fun ls hl => ?_)
  refine lv_iload_n hx hb dX13_four_3 rfl (lv_at hl 0 rfl) ?_
  refine lv_if_lt (tgt := 33) hx hb dX13_four_4 (by decide) (fun c9 => absurd c9 (by decide)) (fun _ => ?_)
  refine lv_aload_n hx hb dX13_four_7 rfl (lv_at hl 1 rfl) ?_
  refine pq_get (own := RX13) (ci := 13) (C := RX13) (T := TX13) (N := 229) (k := 65) (v := .ref w56) hx hb hpp pi13 rfl hown hG hW 0 rfl E_m0 18 rfl (by decide) pp15 dX13_four_8 ?_
  refine lv_aload_n hx hb dX13_four_11 rfl (lv_at hl 1 rfl) ?_
  refine lv_dup hx hb dX13_four_12 rfl ?_
  refine pq_get (own := RX13) (ci := 13) (C := RX13) (T := TX13) (N := 229) (k := 68) (v := .int 8) hx hb hpp pi13 rfl hown hG hW 0 rfl E_m0 19 rfl (by decide) pp14 dX13_four_13 ?_
  refine lv_dup_x1 hx hb dX13_four_16 rfl rfl ?_
  refine lv_iconst (v := 1) hx hb dX13_four_17 (by decide) ?_
  refine lv_iadd hx hb dX13_four_18 ?_
  refine pq_topi (y := 9) (by decide) ?_
  refine pq_put (own := RX13) (ci := 13) (C := RX13) (T := TX13) (N := 229) (kv' := [(0, .int 0), (1, .int 0), (2, .int 0), (3, .int 0), (4, .int 0), (5, .int 0), (6, .int (-1)), (16, .ref w10), (19, .ref w13), (20, .ref w14), (21, .ref w15), (22, .ref w16), (23, .ref w17), (24, .ref w18), (25, .ref w19), (42, .int 0), (59, .int 0), (64, .int 0), (65, .ref w56), (68, .int 9), (69, .int 0), (70, .int 0), (71, .int 0), (72, .int 0), (73, .int 0), (74, .int 0), (75, .long 0), (76, .int 0), (79, .int 0), (97, .ref w59), (99, .int 0), (100, .int 0), (132, .int 0), (136, .int 0), (179, .int 0), (180, .int 0), (181, .long 0), (186, .int 0), (188, .int 0), (190, .ref w115), (201, .int 0), (206, .int 0), (211, .int 0)]) hx hb hpp pi13 tyX13 tyX13_ok nmX13 rfl hown hG hW 0 rfl E_m0 68 (by decide) rfl rfl rfl rfl pp14 dX13_four_19 (fun F_m0 H locs hW E_m0 => ?_)
  have hW : pq_W D _ s.heap L f _ [(m0, .inr (13, F_m0)), (w56, .inl (cy 0, 1000, .inl _))] H locs := hW
  refine lv_iload_n hx hb dX13_four_22 rfl (lv_at hl 2 rfl) ?_
  refine lv_iload_n hx hb dX13_four_23 rfl (lv_at hl 0 rfl) ?_
  refine lv_iushr hx hb dX13_four_24 rfl ?_
  refine lv_topi (fun y73 _ => ?_)
  refine lv_i2b hx hb dX13_four_25 rfl ?_
  refine lv_topi (fun y74 _ => ?_)
  refine pq_bast hx hb hG hW 1 rfl (vp_in_iff.mpr ⟨by decide, by decide⟩) dX13_four_26 (fun H locs hW => ?_)
  have hW : pq_W D _ s.heap L f _ [(m0, .inr (13, F_m0)), (w56, .inl (cy 0, 1000, .inl _))] H locs := hW
  refine lv_iinc (v := 16) (lv' := [(2, .int 16), (0, .ref m0), (1, .int n1)]) hx hb dX13_four_27 hl (k := 0) rfl (by decide) (by decide) rfl (fun ls hl => ?_)
  refine lv_goto (tgt := 3) hx hb dX13_four_30 (by decide) ?_
  refine lv_iload_n hx hb dX13_four_3 rfl (lv_at hl 0 rfl) ?_
  refine lv_if_lt (tgt := 33) hx hb dX13_four_4 (by decide) (fun c9 => absurd c9 (by decide)) (fun _ => ?_)
  refine lv_aload_n hx hb dX13_four_7 rfl (lv_at hl 1 rfl) ?_
  refine pq_get (own := RX13) (ci := 13) (C := RX13) (T := TX13) (N := 229) (k := 65) (v := .ref w56) hx hb hpp pi13 rfl hown hG hW 0 rfl E_m0 18 rfl (by decide) pp15 dX13_four_8 ?_
  refine lv_aload_n hx hb dX13_four_11 rfl (lv_at hl 1 rfl) ?_
  refine lv_dup hx hb dX13_four_12 rfl ?_
  refine pq_get (own := RX13) (ci := 13) (C := RX13) (T := TX13) (N := 229) (k := 68) (v := .int 9) hx hb hpp pi13 rfl hown hG hW 0 rfl E_m0 19 rfl (by decide) pp14 dX13_four_13 ?_
  refine lv_dup_x1 hx hb dX13_four_16 rfl rfl ?_
  refine lv_iconst (v := 1) hx hb dX13_four_17 (by decide) ?_
  refine lv_iadd hx hb dX13_four_18 ?_
  refine pq_topi (y := 10) (by decide) ?_
  refine pq_put (own := RX13) (ci := 13) (C := RX13) (T := TX13) (N := 229) (kv' := [(0, .int 0), (1, .int 0), (2, .int 0), (3, .int 0), (4, .int 0), (5, .int 0), (6, .int (-1)), (16, .ref w10), (19, .ref w13), (20, .ref w14), (21, .ref w15), (22, .ref w16), (23, .ref w17), (24, .ref w18), (25, .ref w19), (42, .int 0), (59, .int 0), (64, .int 0), (65, .ref w56), (68, .int 10), (69, .int 0), (70, .int 0), (71, .int 0), (72, .int 0), (73, .int 0), (74, .int 0), (75, .long 0), (76, .int 0), (79, .int 0), (97, .ref w59), (99, .int 0), (100, .int 0), (132, .int 0), (136, .int 0), (179, .int 0), (180, .int 0), (181, .long 0), (186, .int 0), (188, .int 0), (190, .ref w115), (201, .int 0), (206, .int 0), (211, .int 0)]) hx hb hpp pi13 tyX13 tyX13_ok nmX13 rfl hown hG hW 0 rfl E_m0 68 (by decide) rfl rfl rfl rfl pp14 dX13_four_19 (fun F_m0 H locs hW E_m0 => ?_)
  have hW : pq_W D _ s.heap L f _ [(m0, .inr (13, F_m0)), (w56, .inl (cy 0, 1000, .inl _))] H locs := hW
  refine lv_iload_n hx hb dX13_four_22 rfl (lv_at hl 2 rfl) ?_
  refine lv_iload_n hx hb dX13_four_23 rfl (lv_at hl 0 rfl) ?_
  refine lv_iushr hx hb dX13_four_24 rfl ?_
  refine lv_topi (fun y75 _ => ?_)
  refine lv_i2b hx hb dX13_four_25 rfl ?_
  refine lv_topi (fun y76 _ => ?_)
  refine pq_bast hx hb hG hW 1 rfl (vp_in_iff.mpr ⟨by decide, by decide⟩) dX13_four_26 (fun H locs hW => ?_)
  have hW : pq_W D _ s.heap L f _ [(m0, .inr (13, F_m0)), (w56, .inl (cy 0, 1000, .inl _))] H locs := hW
  refine lv_iinc (v := 8) (lv' := [(2, .int 8), (0, .ref m0), (1, .int n1)]) hx hb dX13_four_27 hl (k := 0) rfl (by decide) (by decide) rfl (fun ls hl => ?_)
  refine lv_goto (tgt := 3) hx hb dX13_four_30 (by decide) ?_
  refine lv_iload_n hx hb dX13_four_3 rfl (lv_at hl 0 rfl) ?_
  refine lv_if_lt (tgt := 33) hx hb dX13_four_4 (by decide) (fun c9 => absurd c9 (by decide)) (fun _ => ?_)
  refine lv_aload_n hx hb dX13_four_7 rfl (lv_at hl 1 rfl) ?_
  refine pq_get (own := RX13) (ci := 13) (C := RX13) (T := TX13) (N := 229) (k := 65) (v := .ref w56) hx hb hpp pi13 rfl hown hG hW 0 rfl E_m0 18 rfl (by decide) pp15 dX13_four_8 ?_
  refine lv_aload_n hx hb dX13_four_11 rfl (lv_at hl 1 rfl) ?_
  refine lv_dup hx hb dX13_four_12 rfl ?_
  refine pq_get (own := RX13) (ci := 13) (C := RX13) (T := TX13) (N := 229) (k := 68) (v := .int 10) hx hb hpp pi13 rfl hown hG hW 0 rfl E_m0 19 rfl (by decide) pp14 dX13_four_13 ?_
  refine lv_dup_x1 hx hb dX13_four_16 rfl rfl ?_
  refine lv_iconst (v := 1) hx hb dX13_four_17 (by decide) ?_
  refine lv_iadd hx hb dX13_four_18 ?_
  refine pq_topi (y := 11) (by decide) ?_
  refine pq_put (own := RX13) (ci := 13) (C := RX13) (T := TX13) (N := 229) (kv' := [(0, .int 0), (1, .int 0), (2, .int 0), (3, .int 0), (4, .int 0), (5, .int 0), (6, .int (-1)), (16, .ref w10), (19, .ref w13), (20, .ref w14), (21, .ref w15), (22, .ref w16), (23, .ref w17), (24, .ref w18), (25, .ref w19), (42, .int 0), (59, .int 0), (64, .int 0), (65, .ref w56), (68, .int 11), (69, .int 0), (70, .int 0), (71, .int 0), (72, .int 0), (73, .int 0), (74, .int 0), (75, .long 0), (76, .int 0), (79, .int 0), (97, .ref w59), (99, .int 0), (100, .int 0), (132, .int 0), (136, .int 0), (179, .int 0), (180, .int 0), (181, .long 0), (186, .int 0), (188, .int 0), (190, .ref w115), (201, .int 0), (206, .int 0), (211, .int 0)]) hx hb hpp pi13 tyX13 tyX13_ok nmX13 rfl hown hG hW 0 rfl E_m0 68 (by decide) rfl rfl rfl rfl pp14 dX13_four_19 (fun F_m0 H locs hW E_m0 => ?_)
  have hW : pq_W D _ s.heap L f _ [(m0, .inr (13, F_m0)), (w56, .inl (cy 0, 1000, .inl _))] H locs := hW
  refine lv_iload_n hx hb dX13_four_22 rfl (lv_at hl 2 rfl) ?_
  refine lv_iload_n hx hb dX13_four_23 rfl (lv_at hl 0 rfl) ?_
  refine lv_iushr hx hb dX13_four_24 rfl ?_
  refine lv_topi (fun y77 _ => ?_)
  refine lv_i2b hx hb dX13_four_25 rfl ?_
  refine lv_topi (fun y78 _ => ?_)
  refine pq_bast hx hb hG hW 1 rfl (vp_in_iff.mpr ⟨by decide, by decide⟩) dX13_four_26 (fun H locs hW => ?_)
  have hW : pq_W D _ s.heap L f _ [(m0, .inr (13, F_m0)), (w56, .inl (cy 0, 1000, .inl _))] H locs := hW
  refine lv_iinc (v := 0) (lv' := [(2, .int 0), (0, .ref m0), (1, .int n1)]) hx hb dX13_four_27 hl (k := 0) rfl (by decide) (by decide) rfl (fun ls hl => ?_)
  refine lv_goto (tgt := 3) hx hb dX13_four_30 (by decide) ?_
  refine lv_iload_n hx hb dX13_four_3 rfl (lv_at hl 0 rfl) ?_
  refine lv_if_lt (tgt := 33) hx hb dX13_four_4 (by decide) (fun c9 => absurd c9 (by decide)) (fun _ => ?_)
  refine lv_aload_n hx hb dX13_four_7 rfl (lv_at hl 1 rfl) ?_
  refine pq_get (own := RX13) (ci := 13) (C := RX13) (T := TX13) (N := 229) (k := 65) (v := .ref w56) hx hb hpp pi13 rfl hown hG hW 0 rfl E_m0 18 rfl (by decide) pp15 dX13_four_8 ?_
  refine lv_aload_n hx hb dX13_four_11 rfl (lv_at hl 1 rfl) ?_
  refine lv_dup hx hb dX13_four_12 rfl ?_
  refine pq_get (own := RX13) (ci := 13) (C := RX13) (T := TX13) (N := 229) (k := 68) (v := .int 11) hx hb hpp pi13 rfl hown hG hW 0 rfl E_m0 19 rfl (by decide) pp14 dX13_four_13 ?_
  refine lv_dup_x1 hx hb dX13_four_16 rfl rfl ?_
  refine lv_iconst (v := 1) hx hb dX13_four_17 (by decide) ?_
  refine lv_iadd hx hb dX13_four_18 ?_
  refine pq_topi (y := 12) (by decide) ?_
  refine pq_put (own := RX13) (ci := 13) (C := RX13) (T := TX13) (N := 229) (kv' := [(0, .int 0), (1, .int 0), (2, .int 0), (3, .int 0), (4, .int 0), (5, .int 0), (6, .int (-1)), (16, .ref w10), (19, .ref w13), (20, .ref w14), (21, .ref w15), (22, .ref w16), (23, .ref w17), (24, .ref w18), (25, .ref w19), (42, .int 0), (59, .int 0), (64, .int 0), (65, .ref w56), (68, .int 12), (69, .int 0), (70, .int 0), (71, .int 0), (72, .int 0), (73, .int 0), (74, .int 0), (75, .long 0), (76, .int 0), (79, .int 0), (97, .ref w59), (99, .int 0), (100, .int 0), (132, .int 0), (136, .int 0), (179, .int 0), (180, .int 0), (181, .long 0), (186, .int 0), (188, .int 0), (190, .ref w115), (201, .int 0), (206, .int 0), (211, .int 0)]) hx hb hpp pi13 tyX13 tyX13_ok nmX13 rfl hown hG hW 0 rfl E_m0 68 (by decide) rfl rfl rfl rfl pp14 dX13_four_19 (fun F_m0 H locs hW E_m0 => ?_)
  have hW : pq_W D _ s.heap L f _ [(m0, .inr (13, F_m0)), (w56, .inl (cy 0, 1000, .inl _))] H locs := hW
  refine lv_iload_n hx hb dX13_four_22 rfl (lv_at hl 2 rfl) ?_
  refine lv_iload_n hx hb dX13_four_23 rfl (lv_at hl 0 rfl) ?_
  refine lv_iushr hx hb dX13_four_24 rfl ?_
  refine lv_topi (fun y79 _ => ?_)
  refine lv_i2b hx hb dX13_four_25 rfl ?_
  refine lv_topi (fun y80 _ => ?_)
  refine pq_bast hx hb hG hW 1 rfl (vp_in_iff.mpr ⟨by decide, by decide⟩) dX13_four_26 (fun H locs hW => ?_)
  have hW : pq_W D _ s.heap L f _ [(m0, .inr (13, F_m0)), (w56, .inl (cy 0, 1000, .inl _))] H locs := hW
  refine lv_iinc (v := (-8)) (lv' := [(2, .int (-8)), (0, .ref m0), (1, .int n1)]) hx hb dX13_four_27 hl (k := 0) rfl (by decide) (by decide) rfl (fun ls hl => ?_)
  refine lv_goto (tgt := 3) hx hb dX13_four_30 (by decide) ?_
  refine lv_iload_n hx hb dX13_four_3 rfl (lv_at hl 0 rfl) ?_
  refine lv_if_lt (tgt := 33) hx hb dX13_four_4 (by decide) (fun _ => ?_) (fun c9 => absurd c9 (by decide))
  exact pq_vret hx hb hr hlocks hW ⟨_, _, rfl, E_m0⟩ dX13_four_33
set_option maxHeartbeats 4000000 in
set_option maxRecDepth 100000 in
/-- TongueHouseModel.four on a new object -/
theorem c_X13_four_3 (l : Launch) (D : va_G) (cy : Nat → ClassId) (sz : Nat) (L : List Nat) (f : Nat → va_E) {w10 w13 w14 w15 w16 w17 w18 w19 w59 w115 : Nat} (m0 w56 : Nat) (F_m0 : List Value) (g_w56 : Nat → Int32) (n1 : Int32) (hC : pq_C L f [(m0, .inr (13, F_m0)), (w56, .inl (cy 0, 1000, .inl g_w56))]) (E_m0 : pq_E 229 F_m0 [(0, .int 0), (1, .int 0), (2, .int 0), (3, .int 0), (4, .int 0), (5, .int 0), (6, .int (-1)), (16, .ref w10), (19, .ref w13), (20, .ref w14), (21, .ref w15), (22, .ref w16), (23, .ref w17), (24, .ref w18), (25, .ref w19), (42, .int 0), (59, .int 0), (64, .int 0), (65, .ref w56), (68, .int 12), (69, .int 0), (70, .int 0), (71, .int 0), (72, .int 0), (73, .int 0), (74, .int 0), (75, .long 0), (76, .int 0), (79, .int 0), (97, .ref w59), (99, .int 0), (100, .int 0), (132, .int 0), (136, .int 0), (179, .int 0), (180, .int 0), (181, .long 0), (186, .int 0), (188, .int 0), (190, .ref w115), (201, .int 0), (206, .int 0), (211, .int 0)]) : Met l yX13_four (Cond.code yX13_four cX13_four 3 none :: pp_ws) ({ frames := 0, cells := 0, slots := 0, locals := 0 }) (pw_Pc D cy [.ref m0, .int n1] sz L f) (pq_Qv D sz L f [m0, w56] (fun cs1 => (∃ (F_m0 : List Value) (g_w56 : Nat → Int32), cs1 = [(m0, .inr (13, F_m0)), (w56, .inl (cy 0, 1000, .inl g_w56))] ∧ pq_E 229 F_m0 [(0, .int 0), (1, .int 0), (2, .int 0), (3, .int 0), (4, .int 0), (5, .int 0), (6, .int (-1)), (16, .ref w10), (19, .ref w13), (20, .ref w14), (21, .ref w15), (22, .ref w16), (23, .ref w17), (24, .ref w18), (25, .ref w19), (42, .int 0), (59, .int 0), (64, .int 0), (65, .ref w56), (68, .int 16), (69, .int 0), (70, .int 0), (71, .int 0), (72, .int 0), (73, .int 0), (74, .int 0), (75, .long 0), (76, .int 0), (79, .int 0), (97, .ref w59), (99, .int 0), (100, .int 0), (132, .int 0), (136, .int 0), (179, .int 0), (180, .int 0), (181, .long 0), (186, .int 0), (188, .int 0), (190, .ref w115), (201, .int 0), (206, .int 0), (211, .int 0)]))) 0 0 (pw_A L f sz) := by
  refine Met.ofW (cc := cX13_four) (maxL := 3) (ret := none) (by decide) rfl ?_
  intro p e s m args below meth c s₁ B hml hv
  obtain ⟨rfl, hsz, hG, hP, hD0⟩ := hv
  have hx := B.exec
  have hb := B.bytes
  have hr := B.returns
  have hts := atoms_spec (ws := Cond.code yX13_four cX13_four 3 none :: pp_ws) B.pre
  have hpp := fun (w : Cond) (h : w ∈ pp_ws) => hts w (List.mem_cons_of_mem _ h)
  have hown : s.vm.findClass RX13 = some m.cls := findClass_of_methodNamed B.named
  have hlocks := B.notSynchronized
  have hw := pw_start (cy := cy) hsz hP hD0
  have hW := pq_start (as := [m0, w56]) hw hC rfl
  have hl := lv_entry ([.ref m0, .int n1]) (n := 3) (Nat.le_of_ble_eq_true rfl)
  rw [lg_entry_eq]
  generalize (lg_sl ([.ref m0, .int n1]) ++ List.replicate (3 - (lg_sl ([.ref m0, .int n1])).length) Slot.unset).toArray = ls at hl ⊢
  have hl : lv_has ls 3 [(0, .ref m0), (1, .int n1)] := hl
  refine lv_bipush (v := 24) hx hb dX13_four_0 (by decide) ?_
  refine lv_istore_n (lv' := [(2, .int 24), (0, .ref m0), (1, .int n1)]) hx hb dX13_four_2 rfl hl (by decide) rfl (fun ls hl => ?_)
  refine lv_iload_n hx hb dX13_four_3 rfl (lv_at hl 0 rfl) ?_
  refine lv_if_lt (tgt := 33) hx hb dX13_four_4 (by decide) (fun c9 => absurd c9 (by decide)) (fun _ => ?_)
  refine lv_aload_n hx hb dX13_four_7 rfl (lv_at hl 1 rfl) ?_
  refine pq_get (own := RX13) (ci := 13) (C := RX13) (T := TX13) (N := 229) (k := 65) (v := .ref w56) hx hb hpp pi13 rfl hown hG hW 0 rfl E_m0 18 rfl (by decide) pp15 dX13_four_8 ?_
  refine lv_aload_n hx hb dX13_four_11 rfl (lv_at hl 1 rfl) ?_
  refine lv_dup hx hb dX13_four_12 rfl ?_
  refine pq_get (own := RX13) (ci := 13) (C := RX13) (T := TX13) (N := 229) (k := 68) (v := .int 12) hx hb hpp pi13 rfl hown hG hW 0 rfl E_m0 19 rfl (by decide) pp14 dX13_four_13 ?_
  refine lv_dup_x1 hx hb dX13_four_16 rfl rfl ?_
  refine lv_iconst (v := 1) hx hb dX13_four_17 (by decide) ?_
  refine lv_iadd hx hb dX13_four_18 ?_
  refine pq_topi (y := 13) (by decide) ?_
  refine pq_put (own := RX13) (ci := 13) (C := RX13) (T := TX13) (N := 229) (kv' := [(0, .int 0), (1, .int 0), (2, .int 0), (3, .int 0), (4, .int 0), (5, .int 0), (6, .int (-1)), (16, .ref w10), (19, .ref w13), (20, .ref w14), (21, .ref w15), (22, .ref w16), (23, .ref w17), (24, .ref w18), (25, .ref w19), (42, .int 0), (59, .int 0), (64, .int 0), (65, .ref w56), (68, .int 13), (69, .int 0), (70, .int 0), (71, .int 0), (72, .int 0), (73, .int 0), (74, .int 0), (75, .long 0), (76, .int 0), (79, .int 0), (97, .ref w59), (99, .int 0), (100, .int 0), (132, .int 0), (136, .int 0), (179, .int 0), (180, .int 0), (181, .long 0), (186, .int 0), (188, .int 0), (190, .ref w115), (201, .int 0), (206, .int 0), (211, .int 0)]) hx hb hpp pi13 tyX13 tyX13_ok nmX13 rfl hown hG hW 0 rfl E_m0 68 (by decide) rfl rfl rfl rfl pp14 dX13_four_19 (fun F_m0 H locs hW E_m0 => ?_)
  have hW : pq_W D _ s.heap L f _ [(m0, .inr (13, F_m0)), (w56, .inl (cy 0, 1000, .inl _))] H locs := hW
  refine lv_iload_n hx hb dX13_four_22 rfl (lv_at hl 2 rfl) ?_
  refine lv_iload_n hx hb dX13_four_23 rfl (lv_at hl 0 rfl) ?_
  refine lv_iushr hx hb dX13_four_24 rfl ?_
  refine lv_topi (fun y89 _ => ?_)
  refine lv_i2b hx hb dX13_four_25 rfl ?_
  refine lv_topi (fun y90 _ => ?_)
  refine pq_bast hx hb hG hW 1 rfl (vp_in_iff.mpr ⟨by decide, by decide⟩) dX13_four_26 (fun H locs hW => ?_)
  have hW : pq_W D _ s.heap L f _ [(m0, .inr (13, F_m0)), (w56, .inl (cy 0, 1000, .inl _))] H locs := hW
  refine lv_iinc (v := 16) (lv' := [(2, .int 16), (0, .ref m0), (1, .int n1)]) hx hb dX13_four_27 hl (k := 0) rfl (by decide) (by decide) rfl (fun ls hl => ?_)
  refine lv_goto (tgt := 3) hx hb dX13_four_30 (by decide) ?_
  refine lv_iload_n hx hb dX13_four_3 rfl (lv_at hl 0 rfl) ?_
  refine lv_if_lt (tgt := 33) hx hb dX13_four_4 (by decide) (fun c9 => absurd c9 (by decide)) (fun _ => ?_)
  refine lv_aload_n hx hb dX13_four_7 rfl (lv_at hl 1 rfl) ?_
  refine pq_get (own := RX13) (ci := 13) (C := RX13) (T := TX13) (N := 229) (k := 65) (v := .ref w56) hx hb hpp pi13 rfl hown hG hW 0 rfl E_m0 18 rfl (by decide) pp15 dX13_four_8 ?_
  refine lv_aload_n hx hb dX13_four_11 rfl (lv_at hl 1 rfl) ?_
  refine lv_dup hx hb dX13_four_12 rfl ?_
  refine pq_get (own := RX13) (ci := 13) (C := RX13) (T := TX13) (N := 229) (k := 68) (v := .int 13) hx hb hpp pi13 rfl hown hG hW 0 rfl E_m0 19 rfl (by decide) pp14 dX13_four_13 ?_
  refine lv_dup_x1 hx hb dX13_four_16 rfl rfl ?_
  refine lv_iconst (v := 1) hx hb dX13_four_17 (by decide) ?_
  refine lv_iadd hx hb dX13_four_18 ?_
  refine pq_topi (y := 14) (by decide) ?_
  refine pq_put (own := RX13) (ci := 13) (C := RX13) (T := TX13) (N := 229) (kv' := [(0, .int 0), (1, .int 0), (2, .int 0), (3, .int 0), (4, .int 0), (5, .int 0), (6, .int (-1)), (16, .ref w10), (19, .ref w13), (20, .ref w14), (21, .ref w15), (22, .ref w16), (23, .ref w17), (24, .ref w18), (25, .ref w19), (42, .int 0), (59, .int 0), (64, .int 0), (65, .ref w56), (68, .int 14), (69, .int 0), (70, .int 0), (71, .int 0), (72, .int 0), (73, .int 0), (74, .int 0), (75, .long 0), (76, .int 0), (79, .int 0), (97, .ref w59), (99, .int 0), (100, .int 0), (132, .int 0), (136, .int 0), (179, .int 0), (180, .int 0), (181, .long 0), (186, .int 0), (188, .int 0), (190, .ref w115), (201, .int 0), (206, .int 0), (211, .int 0)]) hx hb hpp pi13 tyX13 tyX13_ok nmX13 rfl hown hG hW 0 rfl E_m0 68 (by decide) rfl rfl rfl rfl pp14 dX13_four_19 (fun F_m0 H locs hW E_m0 => ?_)
  have hW : pq_W D _ s.heap L f _ [(m0, .inr (13, F_m0)), (w56, .inl (cy 0, 1000, .inl _))] H locs := hW
  refine lv_iload_n hx hb dX13_four_22 rfl (lv_at hl 2 rfl) ?_
  refine lv_iload_n hx hb dX13_four_23 rfl (lv_at hl 0 rfl) ?_
  refine lv_iushr hx hb dX13_four_24 rfl ?_
  refine lv_topi (fun y91 _ => ?_)
  refine lv_i2b hx hb dX13_four_25 rfl ?_
  refine lv_topi (fun y92 _ => ?_)
  refine pq_bast hx hb hG hW 1 rfl (vp_in_iff.mpr ⟨by decide, by decide⟩) dX13_four_26 (fun H locs hW => ?_)
  have hW : pq_W D _ s.heap L f _ [(m0, .inr (13, F_m0)), (w56, .inl (cy 0, 1000, .inl _))] H locs := hW
  refine lv_iinc (v := 8) (lv' := [(2, .int 8), (0, .ref m0), (1, .int n1)]) hx hb dX13_four_27 hl (k := 0) rfl (by decide) (by decide) rfl (fun ls hl => ?_)
  refine lv_goto (tgt := 3) hx hb dX13_four_30 (by decide) ?_
  refine lv_iload_n hx hb dX13_four_3 rfl (lv_at hl 0 rfl) ?_
  refine lv_if_lt (tgt := 33) hx hb dX13_four_4 (by decide) (fun c9 => absurd c9 (by decide)) (fun _ => ?_)
  refine lv_aload_n hx hb dX13_four_7 rfl (lv_at hl 1 rfl) ?_
  refine pq_get (own := RX13) (ci := 13) (C := RX13) (T := TX13) (N := 229) (k := 65) (v := .ref w56) hx hb hpp pi13 rfl hown hG hW 0 rfl E_m0 18 rfl (by decide) pp15 dX13_four_8 ?_
  refine lv_aload_n hx hb dX13_four_11 rfl (lv_at hl 1 rfl) ?_
  refine lv_dup hx hb dX13_four_12 rfl ?_
  refine pq_get (own := RX13) (ci := 13) (C := RX13) (T := TX13) (N := 229) (k := 68) (v := .int 14) hx hb hpp pi13 rfl hown hG hW 0 rfl E_m0 19 rfl (by decide) pp14 dX13_four_13 ?_
  refine lv_dup_x1 hx hb dX13_four_16 rfl rfl ?_
  refine lv_iconst (v := 1) hx hb dX13_four_17 (by decide) ?_
  refine lv_iadd hx hb dX13_four_18 ?_
  refine pq_topi (y := 15) (by decide) ?_
  refine pq_put (own := RX13) (ci := 13) (C := RX13) (T := TX13) (N := 229) (kv' := [(0, .int 0), (1, .int 0), (2, .int 0), (3, .int 0), (4, .int 0), (5, .int 0), (6, .int (-1)), (16, .ref w10), (19, .ref w13), (20, .ref w14), (21, .ref w15), (22, .ref w16), (23, .ref w17), (24, .ref w18), (25, .ref w19), (42, .int 0), (59, .int 0), (64, .int 0), (65, .ref w56), (68, .int 15), (69, .int 0), (70, .int 0), (71, .int 0), (72, .int 0), (73, .int 0), (74, .int 0), (75, .long 0), (76, .int 0), (79, .int 0), (97, .ref w59), (99, .int 0), (100, .int 0), (132, .int 0), (136, .int 0), (179, .int 0), (180, .int 0), (181, .long 0), (186, .int 0), (188, .int 0), (190, .ref w115), (201, .int 0), (206, .int 0), (211, .int 0)]) hx hb hpp pi13 tyX13 tyX13_ok nmX13 rfl hown hG hW 0 rfl E_m0 68 (by decide) rfl rfl rfl rfl pp14 dX13_four_19 (fun F_m0 H locs hW E_m0 => ?_)
  have hW : pq_W D _ s.heap L f _ [(m0, .inr (13, F_m0)), (w56, .inl (cy 0, 1000, .inl _))] H locs := hW
  refine lv_iload_n hx hb dX13_four_22 rfl (lv_at hl 2 rfl) ?_
  refine lv_iload_n hx hb dX13_four_23 rfl (lv_at hl 0 rfl) ?_
  refine lv_iushr hx hb dX13_four_24 rfl ?_
  refine lv_topi (fun y93 _ => ?_)
  refine lv_i2b hx hb dX13_four_25 rfl ?_
  refine lv_topi (fun y94 _ => ?_)
  refine pq_bast hx hb hG hW 1 rfl (vp_in_iff.mpr ⟨by decide, by decide⟩) dX13_four_26 (fun H locs hW => ?_)
  have hW : pq_W D _ s.heap L f _ [(m0, .inr (13, F_m0)), (w56, .inl (cy 0, 1000, .inl _))] H locs := hW
  refine lv_iinc (v := 0) (lv' := [(2, .int 0), (0, .ref m0), (1, .int n1)]) hx hb dX13_four_27 hl (k := 0) rfl (by decide) (by decide) rfl (fun ls hl => ?_)
  refine lv_goto (tgt := 3) hx hb dX13_four_30 (by decide) ?_
  refine lv_iload_n hx hb dX13_four_3 rfl (lv_at hl 0 rfl) ?_
  refine lv_if_lt (tgt := 33) hx hb dX13_four_4 (by decide) (fun c9 => absurd c9 (by decide)) (fun _ => ?_)
  refine lv_aload_n hx hb dX13_four_7 rfl (lv_at hl 1 rfl) ?_
  refine pq_get (own := RX13) (ci := 13) (C := RX13) (T := TX13) (N := 229) (k := 65) (v := .ref w56) hx hb hpp pi13 rfl hown hG hW 0 rfl E_m0 18 rfl (by decide) pp15 dX13_four_8 ?_
  refine lv_aload_n hx hb dX13_four_11 rfl (lv_at hl 1 rfl) ?_
  refine lv_dup hx hb dX13_four_12 rfl ?_
  refine pq_get (own := RX13) (ci := 13) (C := RX13) (T := TX13) (N := 229) (k := 68) (v := .int 15) hx hb hpp pi13 rfl hown hG hW 0 rfl E_m0 19 rfl (by decide) pp14 dX13_four_13 ?_
  refine lv_dup_x1 hx hb dX13_four_16 rfl rfl ?_
  refine lv_iconst (v := 1) hx hb dX13_four_17 (by decide) ?_
  refine lv_iadd hx hb dX13_four_18 ?_
  refine pq_topi (y := 16) (by decide) ?_
  refine pq_put (own := RX13) (ci := 13) (C := RX13) (T := TX13) (N := 229) (kv' := [(0, .int 0), (1, .int 0), (2, .int 0), (3, .int 0), (4, .int 0), (5, .int 0), (6, .int (-1)), (16, .ref w10), (19, .ref w13), (20, .ref w14), (21, .ref w15), (22, .ref w16), (23, .ref w17), (24, .ref w18), (25, .ref w19), (42, .int 0), (59, .int 0), (64, .int 0), (65, .ref w56), (68, .int 16), (69, .int 0), (70, .int 0), (71, .int 0), (72, .int 0), (73, .int 0), (74, .int 0), (75, .long 0), (76, .int 0), (79, .int 0), (97, .ref w59), (99, .int 0), (100, .int 0), (132, .int 0), (136, .int 0), (179, .int 0), (180, .int 0), (181, .long 0), (186, .int 0), (188, .int 0), (190, .ref w115), (201, .int 0), (206, .int 0), (211, .int 0)]) hx hb hpp pi13 tyX13 tyX13_ok nmX13 rfl hown hG hW 0 rfl E_m0 68 (by decide) rfl rfl rfl rfl pp14 dX13_four_19 (fun F_m0 H locs hW E_m0 => ?_)
  have hW : pq_W D _ s.heap L f _ [(m0, .inr (13, F_m0)), (w56, .inl (cy 0, 1000, .inl _))] H locs := hW
  refine lv_iload_n hx hb dX13_four_22 rfl (lv_at hl 2 rfl) ?_
  refine lv_iload_n hx hb dX13_four_23 rfl (lv_at hl 0 rfl) ?_
  refine lv_iushr hx hb dX13_four_24 rfl ?_
  refine lv_topi (fun y95 _ => ?_)
  refine lv_i2b hx hb dX13_four_25 rfl ?_
  refine lv_topi (fun y96 _ => ?_)
  refine pq_bast hx hb hG hW 1 rfl (vp_in_iff.mpr ⟨by decide, by decide⟩) dX13_four_26 (fun H locs hW => ?_)
  have hW : pq_W D _ s.heap L f _ [(m0, .inr (13, F_m0)), (w56, .inl (cy 0, 1000, .inl _))] H locs := hW
  refine lv_iinc (v := (-8)) (lv' := [(2, .int (-8)), (0, .ref m0), (1, .int n1)]) hx hb dX13_four_27 hl (k := 0) rfl (by decide) (by decide) rfl (fun ls hl => ?_)
  refine lv_goto (tgt := 3) hx hb dX13_four_30 (by decide) ?_
  refine lv_iload_n hx hb dX13_four_3 rfl (lv_at hl 0 rfl) ?_
  refine lv_if_lt (tgt := 33) hx hb dX13_four_4 (by decide) (fun _ => ?_) (fun c9 => absurd c9 (by decide))
  exact pq_vret hx hb hr hlocks hW ⟨_, _, rfl, E_m0⟩ dX13_four_33
set_option maxHeartbeats 4000000 in
set_option maxRecDepth 100000 in
/-- TongueHouseModel.four on a new object -/
theorem c_X13_four_4 (l : Launch) (D : va_G) (cy : Nat → ClassId) (sz : Nat) (L : List Nat) (f : Nat → va_E) {w10 w13 w14 w15 w16 w17 w18 w19 w59 w115 : Nat} (m0 w56 : Nat) (F_m0 : List Value) (g_w56 : Nat → Int32) (n1 : Int32) (hC : pq_C L f [(m0, .inr (13, F_m0)), (w56, .inl (cy 0, 1000, .inl g_w56))]) (E_m0 : pq_E 229 F_m0 [(0, .int 0), (1, .int 0), (2, .int 0), (3, .int 0), (4, .int 0), (5, .int 0), (6, .int (-1)), (16, .ref w10), (19, .ref w13), (20, .ref w14), (21, .ref w15), (22, .ref w16), (23, .ref w17), (24, .ref w18), (25, .ref w19), (42, .int 0), (59, .int 0), (64, .int 0), (65, .ref w56), (68, .int 16), (69, .int 0), (70, .int 0), (71, .int 0), (72, .int 0), (73, .int 0), (74, .int 0), (75, .long 0), (76, .int 0), (79, .int 0), (97, .ref w59), (99, .int 0), (100, .int 0), (132, .int 0), (136, .int 0), (179, .int 0), (180, .int 0), (181, .long 0), (186, .int 0), (188, .int 0), (190, .ref w115), (201, .int 0), (206, .int 0), (211, .int 0)]) : Met l yX13_four (Cond.code yX13_four cX13_four 3 none :: pp_ws) ({ frames := 0, cells := 0, slots := 0, locals := 0 }) (pw_Pc D cy [.ref m0, .int n1] sz L f) (pq_Qv D sz L f [m0, w56] (fun cs1 => (∃ (F_m0 : List Value) (g_w56 : Nat → Int32), cs1 = [(m0, .inr (13, F_m0)), (w56, .inl (cy 0, 1000, .inl g_w56))] ∧ pq_E 229 F_m0 [(0, .int 0), (1, .int 0), (2, .int 0), (3, .int 0), (4, .int 0), (5, .int 0), (6, .int (-1)), (16, .ref w10), (19, .ref w13), (20, .ref w14), (21, .ref w15), (22, .ref w16), (23, .ref w17), (24, .ref w18), (25, .ref w19), (42, .int 0), (59, .int 0), (64, .int 0), (65, .ref w56), (68, .int 20), (69, .int 0), (70, .int 0), (71, .int 0), (72, .int 0), (73, .int 0), (74, .int 0), (75, .long 0), (76, .int 0), (79, .int 0), (97, .ref w59), (99, .int 0), (100, .int 0), (132, .int 0), (136, .int 0), (179, .int 0), (180, .int 0), (181, .long 0), (186, .int 0), (188, .int 0), (190, .ref w115), (201, .int 0), (206, .int 0), (211, .int 0)]))) 0 0 (pw_A L f sz) := by
  refine Met.ofW (cc := cX13_four) (maxL := 3) (ret := none) (by decide) rfl ?_
  intro p e s m args below meth c s₁ B hml hv
  obtain ⟨rfl, hsz, hG, hP, hD0⟩ := hv
  have hx := B.exec
  have hb := B.bytes
  have hr := B.returns
  have hts := atoms_spec (ws := Cond.code yX13_four cX13_four 3 none :: pp_ws) B.pre
  have hpp := fun (w : Cond) (h : w ∈ pp_ws) => hts w (List.mem_cons_of_mem _ h)
  have hown : s.vm.findClass RX13 = some m.cls := findClass_of_methodNamed B.named
  have hlocks := B.notSynchronized
  have hw := pw_start (cy := cy) hsz hP hD0
  have hW := pq_start (as := [m0, w56]) hw hC rfl
  have hl := lv_entry ([.ref m0, .int n1]) (n := 3) (Nat.le_of_ble_eq_true rfl)
  rw [lg_entry_eq]
  generalize (lg_sl ([.ref m0, .int n1]) ++ List.replicate (3 - (lg_sl ([.ref m0, .int n1])).length) Slot.unset).toArray = ls at hl ⊢
  have hl : lv_has ls 3 [(0, .ref m0), (1, .int n1)] := hl
  refine lv_bipush (v := 24) hx hb dX13_four_0 (by decide) ?_
  refine lv_istore_n (lv' := [(2, .int 24), (0, .ref m0), (1, .int n1)]) hx hb dX13_four_2 rfl hl (by decide) rfl (fun ls hl => ?_)
  refine lv_iload_n hx hb dX13_four_3 rfl (lv_at hl 0 rfl) ?_
  refine lv_if_lt (tgt := 33) hx hb dX13_four_4 (by decide) (fun c9 => absurd c9 (by decide)) (fun _ => ?_)
  refine lv_aload_n hx hb dX13_four_7 rfl (lv_at hl 1 rfl) ?_
  refine pq_get (own := RX13) (ci := 13) (C := RX13) (T := TX13) (N := 229) (k := 65) (v := .ref w56) hx hb hpp pi13 rfl hown hG hW 0 rfl E_m0 18 rfl (by decide) pp15 dX13_four_8 ?_
  refine lv_aload_n hx hb dX13_four_11 rfl (lv_at hl 1 rfl) ?_
  refine lv_dup hx hb dX13_four_12 rfl ?_
  refine pq_get (own := RX13) (ci := 13) (C := RX13) (T := TX13) (N := 229) (k := 68) (v := .int 16) hx hb hpp pi13 rfl hown hG hW 0 rfl E_m0 19 rfl (by decide) pp14 dX13_four_13 ?_
  refine lv_dup_x1 hx hb dX13_four_16 rfl rfl ?_
  refine lv_iconst (v := 1) hx hb dX13_four_17 (by decide) ?_
  refine lv_iadd hx hb dX13_four_18 ?_
  refine pq_topi (y := 17) (by decide) ?_
  refine pq_put (own := RX13) (ci := 13) (C := RX13) (T := TX13) (N := 229) (kv' := [(0, .int 0), (1, .int 0), (2, .int 0), (3, .int 0), (4, .int 0), (5, .int 0), (6, .int (-1)), (16, .ref w10), (19, .ref w13), (20, .ref w14), (21, .ref w15), (22, .ref w16), (23, .ref w17), (24, .ref w18), (25, .ref w19), (42, .int 0), (59, .int 0), (64, .int 0), (65, .ref w56), (68, .int 17), (69, .int 0), (70, .int 0), (71, .int 0), (72, .int 0), (73, .int 0), (74, .int 0), (75, .long 0), (76, .int 0), (79, .int 0), (97, .ref w59), (99, .int 0), (100, .int 0), (132, .int 0), (136, .int 0), (179, .int 0), (180, .int 0), (181, .long 0), (186, .int 0), (188, .int 0), (190, .ref w115), (201, .int 0), (206, .int 0), (211, .int 0)]) hx hb hpp pi13 tyX13 tyX13_ok nmX13 rfl hown hG hW 0 rfl E_m0 68 (by decide) rfl rfl rfl rfl pp14 dX13_four_19 (fun F_m0 H locs hW E_m0 => ?_)
  have hW : pq_W D _ s.heap L f _ [(m0, .inr (13, F_m0)), (w56, .inl (cy 0, 1000, .inl _))] H locs := hW
  refine lv_iload_n hx hb dX13_four_22 rfl (lv_at hl 2 rfl) ?_
  refine lv_iload_n hx hb dX13_four_23 rfl (lv_at hl 0 rfl) ?_
  refine lv_iushr hx hb dX13_four_24 rfl ?_
  refine lv_topi (fun y105 _ => ?_)
  refine lv_i2b hx hb dX13_four_25 rfl ?_
  refine lv_topi (fun y106 _ => ?_)
  refine pq_bast hx hb hG hW 1 rfl (vp_in_iff.mpr ⟨by decide, by decide⟩) dX13_four_26 (fun H locs hW => ?_)
  have hW : pq_W D _ s.heap L f _ [(m0, .inr (13, F_m0)), (w56, .inl (cy 0, 1000, .inl _))] H locs := hW
  refine lv_iinc (v := 16) (lv' := [(2, .int 16), (0, .ref m0), (1, .int n1)]) hx hb dX13_four_27 hl (k := 0) rfl (by decide) (by decide) rfl (fun ls hl => ?_)
  refine lv_goto (tgt := 3) hx hb dX13_four_30 (by decide) ?_
  refine lv_iload_n hx hb dX13_four_3 rfl (lv_at hl 0 rfl) ?_
  refine lv_if_lt (tgt := 33) hx hb dX13_four_4 (by decide) (fun c9 => absurd c9 (by decide)) (fun _ => ?_)
  refine lv_aload_n hx hb dX13_four_7 rfl (lv_at hl 1 rfl) ?_
  refine pq_get (own := RX13) (ci := 13) (C := RX13) (T := TX13) (N := 229) (k := 65) (v := .ref w56) hx hb hpp pi13 rfl hown hG hW 0 rfl E_m0 18 rfl (by decide) pp15 dX13_four_8 ?_
  refine lv_aload_n hx hb dX13_four_11 rfl (lv_at hl 1 rfl) ?_
  refine lv_dup hx hb dX13_four_12 rfl ?_
  refine pq_get (own := RX13) (ci := 13) (C := RX13) (T := TX13) (N := 229) (k := 68) (v := .int 17) hx hb hpp pi13 rfl hown hG hW 0 rfl E_m0 19 rfl (by decide) pp14 dX13_four_13 ?_
  refine lv_dup_x1 hx hb dX13_four_16 rfl rfl ?_
  refine lv_iconst (v := 1) hx hb dX13_four_17 (by decide) ?_
  refine lv_iadd hx hb dX13_four_18 ?_
  refine pq_topi (y := 18) (by decide) ?_
  refine pq_put (own := RX13) (ci := 13) (C := RX13) (T := TX13) (N := 229) (kv' := [(0, .int 0), (1, .int 0), (2, .int 0), (3, .int 0), (4, .int 0), (5, .int 0), (6, .int (-1)), (16, .ref w10), (19, .ref w13), (20, .ref w14), (21, .ref w15), (22, .ref w16), (23, .ref w17), (24, .ref w18), (25, .ref w19), (42, .int 0), (59, .int 0), (64, .int 0), (65, .ref w56), (68, .int 18), (69, .int 0), (70, .int 0), (71, .int 0), (72, .int 0), (73, .int 0), (74, .int 0), (75, .long 0), (76, .int 0), (79, .int 0), (97, .ref w59), (99, .int 0), (100, .int 0), (132, .int 0), (136, .int 0), (179, .int 0), (180, .int 0), (181, .long 0), (186, .int 0), (188, .int 0), (190, .ref w115), (201, .int 0), (206, .int 0), (211, .int 0)]) hx hb hpp pi13 tyX13 tyX13_ok nmX13 rfl hown hG hW 0 rfl E_m0 68 (by decide) rfl rfl rfl rfl pp14 dX13_four_19 (fun F_m0 H locs hW E_m0 => ?_)
  have hW : pq_W D _ s.heap L f _ [(m0, .inr (13, F_m0)), (w56, .inl (cy 0, 1000, .inl _))] H locs := hW
  refine lv_iload_n hx hb dX13_four_22 rfl (lv_at hl 2 rfl) ?_
  refine lv_iload_n hx hb dX13_four_23 rfl (lv_at hl 0 rfl) ?_
  refine lv_iushr hx hb dX13_four_24 rfl ?_
  refine lv_topi (fun y107 _ => ?_)
  refine lv_i2b hx hb dX13_four_25 rfl ?_
  refine lv_topi (fun y108 _ => ?_)
  refine pq_bast hx hb hG hW 1 rfl (vp_in_iff.mpr ⟨by decide, by decide⟩) dX13_four_26 (fun H locs hW => ?_)
  have hW : pq_W D _ s.heap L f _ [(m0, .inr (13, F_m0)), (w56, .inl (cy 0, 1000, .inl _))] H locs := hW
  refine lv_iinc (v := 8) (lv' := [(2, .int 8), (0, .ref m0), (1, .int n1)]) hx hb dX13_four_27 hl (k := 0) rfl (by decide) (by decide) rfl (fun ls hl => ?_)
  refine lv_goto (tgt := 3) hx hb dX13_four_30 (by decide) ?_
  refine lv_iload_n hx hb dX13_four_3 rfl (lv_at hl 0 rfl) ?_
  refine lv_if_lt (tgt := 33) hx hb dX13_four_4 (by decide) (fun c9 => absurd c9 (by decide)) (fun _ => ?_)
  refine lv_aload_n hx hb dX13_four_7 rfl (lv_at hl 1 rfl) ?_
  refine pq_get (own := RX13) (ci := 13) (C := RX13) (T := TX13) (N := 229) (k := 65) (v := .ref w56) hx hb hpp pi13 rfl hown hG hW 0 rfl E_m0 18 rfl (by decide) pp15 dX13_four_8 ?_
  refine lv_aload_n hx hb dX13_four_11 rfl (lv_at hl 1 rfl) ?_
  refine lv_dup hx hb dX13_four_12 rfl ?_
  refine pq_get (own := RX13) (ci := 13) (C := RX13) (T := TX13) (N := 229) (k := 68) (v := .int 18) hx hb hpp pi13 rfl hown hG hW 0 rfl E_m0 19 rfl (by decide) pp14 dX13_four_13 ?_
  refine lv_dup_x1 hx hb dX13_four_16 rfl rfl ?_
  refine lv_iconst (v := 1) hx hb dX13_four_17 (by decide) ?_
  refine lv_iadd hx hb dX13_four_18 ?_
  refine pq_topi (y := 19) (by decide) ?_
  refine pq_put (own := RX13) (ci := 13) (C := RX13) (T := TX13) (N := 229) (kv' := [(0, .int 0), (1, .int 0), (2, .int 0), (3, .int 0), (4, .int 0), (5, .int 0), (6, .int (-1)), (16, .ref w10), (19, .ref w13), (20, .ref w14), (21, .ref w15), (22, .ref w16), (23, .ref w17), (24, .ref w18), (25, .ref w19), (42, .int 0), (59, .int 0), (64, .int 0), (65, .ref w56), (68, .int 19), (69, .int 0), (70, .int 0), (71, .int 0), (72, .int 0), (73, .int 0), (74, .int 0), (75, .long 0), (76, .int 0), (79, .int 0), (97, .ref w59), (99, .int 0), (100, .int 0), (132, .int 0), (136, .int 0), (179, .int 0), (180, .int 0), (181, .long 0), (186, .int 0), (188, .int 0), (190, .ref w115), (201, .int 0), (206, .int 0), (211, .int 0)]) hx hb hpp pi13 tyX13 tyX13_ok nmX13 rfl hown hG hW 0 rfl E_m0 68 (by decide) rfl rfl rfl rfl pp14 dX13_four_19 (fun F_m0 H locs hW E_m0 => ?_)
  have hW : pq_W D _ s.heap L f _ [(m0, .inr (13, F_m0)), (w56, .inl (cy 0, 1000, .inl _))] H locs := hW
  refine lv_iload_n hx hb dX13_four_22 rfl (lv_at hl 2 rfl) ?_
  refine lv_iload_n hx hb dX13_four_23 rfl (lv_at hl 0 rfl) ?_
  refine lv_iushr hx hb dX13_four_24 rfl ?_
  refine lv_topi (fun y109 _ => ?_)
  refine lv_i2b hx hb dX13_four_25 rfl ?_
  refine lv_topi (fun y110 _ => ?_)
  refine pq_bast hx hb hG hW 1 rfl (vp_in_iff.mpr ⟨by decide, by decide⟩) dX13_four_26 (fun H locs hW => ?_)
  have hW : pq_W D _ s.heap L f _ [(m0, .inr (13, F_m0)), (w56, .inl (cy 0, 1000, .inl _))] H locs := hW
  refine lv_iinc (v := 0) (lv' := [(2, .int 0), (0, .ref m0), (1, .int n1)]) hx hb dX13_four_27 hl (k := 0) rfl (by decide) (by decide) rfl (fun ls hl => ?_)
  refine lv_goto (tgt := 3) hx hb dX13_four_30 (by decide) ?_
  refine lv_iload_n hx hb dX13_four_3 rfl (lv_at hl 0 rfl) ?_
  refine lv_if_lt (tgt := 33) hx hb dX13_four_4 (by decide) (fun c9 => absurd c9 (by decide)) (fun _ => ?_)
  refine lv_aload_n hx hb dX13_four_7 rfl (lv_at hl 1 rfl) ?_
  refine pq_get (own := RX13) (ci := 13) (C := RX13) (T := TX13) (N := 229) (k := 65) (v := .ref w56) hx hb hpp pi13 rfl hown hG hW 0 rfl E_m0 18 rfl (by decide) pp15 dX13_four_8 ?_
  refine lv_aload_n hx hb dX13_four_11 rfl (lv_at hl 1 rfl) ?_
  refine lv_dup hx hb dX13_four_12 rfl ?_
  refine pq_get (own := RX13) (ci := 13) (C := RX13) (T := TX13) (N := 229) (k := 68) (v := .int 19) hx hb hpp pi13 rfl hown hG hW 0 rfl E_m0 19 rfl (by decide) pp14 dX13_four_13 ?_
  refine lv_dup_x1 hx hb dX13_four_16 rfl rfl ?_
  refine lv_iconst (v := 1) hx hb dX13_four_17 (by decide) ?_
  refine lv_iadd hx hb dX13_four_18 ?_
  refine pq_topi (y := 20) (by decide) ?_
  refine pq_put (own := RX13) (ci := 13) (C := RX13) (T := TX13) (N := 229) (kv' := [(0, .int 0), (1, .int 0), (2, .int 0), (3, .int 0), (4, .int 0), (5, .int 0), (6, .int (-1)), (16, .ref w10), (19, .ref w13), (20, .ref w14), (21, .ref w15), (22, .ref w16), (23, .ref w17), (24, .ref w18), (25, .ref w19), (42, .int 0), (59, .int 0), (64, .int 0), (65, .ref w56), (68, .int 20), (69, .int 0), (70, .int 0), (71, .int 0), (72, .int 0), (73, .int 0), (74, .int 0), (75, .long 0), (76, .int 0), (79, .int 0), (97, .ref w59), (99, .int 0), (100, .int 0), (132, .int 0), (136, .int 0), (179, .int 0), (180, .int 0), (181, .long 0), (186, .int 0), (188, .int 0), (190, .ref w115), (201, .int 0), (206, .int 0), (211, .int 0)]) hx hb hpp pi13 tyX13 tyX13_ok nmX13 rfl hown hG hW 0 rfl E_m0 68 (by decide) rfl rfl rfl rfl pp14 dX13_four_19 (fun F_m0 H locs hW E_m0 => ?_)
  have hW : pq_W D _ s.heap L f _ [(m0, .inr (13, F_m0)), (w56, .inl (cy 0, 1000, .inl _))] H locs := hW
  refine lv_iload_n hx hb dX13_four_22 rfl (lv_at hl 2 rfl) ?_
  refine lv_iload_n hx hb dX13_four_23 rfl (lv_at hl 0 rfl) ?_
  refine lv_iushr hx hb dX13_four_24 rfl ?_
  refine lv_topi (fun y111 _ => ?_)
  refine lv_i2b hx hb dX13_four_25 rfl ?_
  refine lv_topi (fun y112 _ => ?_)
  refine pq_bast hx hb hG hW 1 rfl (vp_in_iff.mpr ⟨by decide, by decide⟩) dX13_four_26 (fun H locs hW => ?_)
  have hW : pq_W D _ s.heap L f _ [(m0, .inr (13, F_m0)), (w56, .inl (cy 0, 1000, .inl _))] H locs := hW
  refine lv_iinc (v := (-8)) (lv' := [(2, .int (-8)), (0, .ref m0), (1, .int n1)]) hx hb dX13_four_27 hl (k := 0) rfl (by decide) (by decide) rfl (fun ls hl => ?_)
  refine lv_goto (tgt := 3) hx hb dX13_four_30 (by decide) ?_
  refine lv_iload_n hx hb dX13_four_3 rfl (lv_at hl 0 rfl) ?_
  refine lv_if_lt (tgt := 33) hx hb dX13_four_4 (by decide) (fun _ => ?_) (fun c9 => absurd c9 (by decide))
  exact pq_vret hx hb hr hlocks hW ⟨_, _, rfl, E_m0⟩ dX13_four_33
set_option maxHeartbeats 4000000 in
set_option maxRecDepth 100000 in
/-- TongueHouseModel.feed on a new object -/
theorem c_X13_feed (l : Launch) (D : va_G) (cy : Nat → ClassId) (sz : Nat) (L : List Nat) (f : Nat → va_E) {w10 w13 w14 w15 w16 w17 w18 w19 w59 w115 : Nat} (m0 w56 : Nat) (F_m0 : List Value) (g_w56 : Nat → Int32) (n1 : Int32) (n2 : Int32) (n3 : Int32) (n4 : Int32) (n5 : Int32) (hC : pq_C L f [(m0, .inr (13, F_m0)), (w56, .inl (cy 0, 1000, .inl g_w56))]) (E_m0 : pq_E 229 F_m0 [(0, .int 0), (1, .int 0), (2, .int 0), (3, .int 0), (4, .int 0), (5, .int 0), (6, .int (-1)), (16, .ref w10), (19, .ref w13), (20, .ref w14), (21, .ref w15), (22, .ref w16), (23, .ref w17), (24, .ref w18), (25, .ref w19), (42, .int 0), (59, .int 0), (64, .int 0), (65, .ref w56), (68, .int 0), (69, .int 0), (70, .int 0), (71, .int 0), (72, .int 0), (73, .int 0), (74, .int 0), (75, .long 0), (76, .int 0), (79, .int 0), (97, .ref w59), (99, .int 0), (100, .int 0), (132, .int 0), (136, .int 0), (179, .int 0), (180, .int 0), (181, .long 0), (186, .int 0), (188, .int 0), (190, .ref w115), (201, .int 0), (206, .int 0), (211, .int 0)]) : Met l yX13_feed (Cond.code yX13_feed cX13_feed 6 (some .int) :: pp_ws) ({ frames := 1, cells := 0, slots := 0, locals := 22 }) (pw_Pc D cy [.ref m0, .int n1, .int n2, .int n3, .int n4, .int n5] sz L f) (pq_Qi D sz L f [m0, w56] (fun r cs1 => ∃ (G : List Value) (t : Int32), cs1 = [(m0, .inr (13, G))] ∧ pq_E 229 G [(0, .int t)] ∧ ((t = 1 ∧ (False)) ∨ (t = 0 ∧ ¬ (False) ∧ r = 20)))) 0 0 (pw_A L f sz) := by
  refine Met.ofW (cc := cX13_feed) (maxL := 6) (ret := (some .int)) (by decide) rfl ?_
  intro p e s m args below meth c s₁ B hml hv
  obtain ⟨rfl, hsz, hG, hP, hD0⟩ := hv
  have hx := B.exec
  have hb := B.bytes
  have hr := B.returns
  have hts := atoms_spec (ws := Cond.code yX13_feed cX13_feed 6 (some .int) :: pp_ws) B.pre
  have hpp := fun (w : Cond) (h : w ∈ pp_ws) => hts w (List.mem_cons_of_mem _ h)
  have hown : s.vm.findClass RX13 = some m.cls := findClass_of_methodNamed B.named
  have hlocks := B.notSynchronized
  have hw := pw_start (cy := cy) hsz hP hD0
  have hW := pq_start (as := [m0, w56]) hw hC rfl
  have hl := lv_entry ([.ref m0, .int n1, .int n2, .int n3, .int n4, .int n5]) (n := 6) (Nat.le_of_ble_eq_true rfl)
  rw [lg_entry_eq]
  generalize (lg_sl ([.ref m0, .int n1, .int n2, .int n3, .int n4, .int n5]) ++ List.replicate (6 - (lg_sl ([.ref m0, .int n1, .int n2, .int n3, .int n4, .int n5])).length) Slot.unset).toArray = ls at hl ⊢
  have hl : lv_has ls 6 [(0, .ref m0), (1, .int n1), (2, .int n2), (3, .int n3), (4, .int n4), (5, .int n5)] := hl
  refine lv_aload_n hx hb dX13_feed_0 rfl (lv_at hl 0 rfl) ?_
  refine lv_iconst (v := 0) hx hb dX13_feed_1 (by decide) ?_
  refine pq_put (own := RX13) (ci := 13) (C := RX13) (T := TX13) (N := 229) (kv' := [(0, .int 0), (1, .int 0), (2, .int 0), (3, .int 0), (4, .int 0), (5, .int 0), (6, .int (-1)), (16, .ref w10), (19, .ref w13), (20, .ref w14), (21, .ref w15), (22, .ref w16), (23, .ref w17), (24, .ref w18), (25, .ref w19), (42, .int 0), (59, .int 0), (64, .int 0), (65, .ref w56), (68, .int 0), (69, .int 0), (70, .int 0), (71, .int 0), (72, .int 0), (73, .int 0), (74, .int 0), (75, .long 0), (76, .int 0), (79, .int 0), (97, .ref w59), (99, .int 0), (100, .int 0), (132, .int 0), (136, .int 0), (179, .int 0), (180, .int 0), (181, .long 0), (186, .int 0), (188, .int 0), (190, .ref w115), (201, .int 0), (206, .int 0), (211, .int 0)]) hx hb hpp pi13 tyX13 tyX13_ok nmX13 rfl hown hG hW 0 rfl E_m0 0 (by decide) rfl rfl rfl rfl pp13 dX13_feed_2 (fun F_m0 H locs hW E_m0 => ?_)
  have hW : pq_W D _ s.heap L f _ [(m0, .inr (13, F_m0)), (w56, .inl (cy 0, 1000, .inl g_w56))] H locs := hW
  refine lv_aload_n hx hb dX13_feed_5 rfl (lv_at hl 0 rfl) ?_
  refine pq_get (own := RX13) (ci := 13) (C := RX13) (T := TX13) (N := 229) (k := 68) (v := .int 0) hx hb hpp pi13 rfl hown hG hW 0 rfl E_m0 19 rfl (by decide) pp14 dX13_feed_6 ?_
  refine lv_bipush (v := 20) hx hb dX13_feed_9 (by decide) ?_
  refine lv_iadd hx hb dX13_feed_11 ?_
  refine pq_topi (y := 20) (by decide) ?_
  refine lv_sipush (v := 1000) hx hb dX13_feed_12 (by decide) ?_
  refine lv_icmp_le (tgt := 23) hx hb dX13_feed_15 (by decide) (fun _ => ?_) (fun c9 => absurd c9 (by decide))
  refine lv_aload_n hx hb dX13_feed_23 rfl (lv_at hl 0 rfl) ?_
  refine lv_iload_n hx hb dX13_feed_24 rfl (lv_at hl 1 rfl) ?_
  refine pq_callv hW [0, 1] [] (by decide) rfl rfl (fun f9 hw9 hC9 => va_runV (C := RX13) (As := [.int n1]) (rest := []) ⟨hx, hb, hml, hown, hts⟩ (c_X13_four l D cy _ L f9 m0 w56 F_m0 _ n1 hC9 E_m0) (cwV 1 hts (pp_gV pp17 pp16 pp18 pp19 pp20) rfl rfl rfl pd_X13_four ⟨Nat.le_of_ble_eq_true rfl, Nat.le_of_ble_eq_true rfl⟩) (pq_preV hG hw9 hC9 (j := 0) rfl rfl) rfl rfl hl.1 rfl (lv_room (Nat.le_of_ble_eq_true rfl)) dX13_feed_25 ⟨Nat.le_of_ble_eq_true rfl, Nat.le_of_ble_eq_true rfl⟩) (fun cs1 H locs hP hW => ?_)
  obtain ⟨F_m0, g_w56, rfl, E_m0⟩ := hP
  have hW : pq_W D _ s.heap L f _ [(m0, .inr (13, F_m0)), (w56, .inl (cy 0, 1000, .inl _))] H locs := hW
  refine lv_aload_n hx hb dX13_feed_28 rfl (lv_at hl 0 rfl) ?_
  refine lv_iload_n hx hb dX13_feed_29 rfl (lv_at hl 2 rfl) ?_
  refine pq_callv hW [0, 1] [] (by decide) rfl rfl (fun f9 hw9 hC9 => va_runV (C := RX13) (As := [.int n2]) (rest := []) ⟨hx, hb, hml, hown, hts⟩ (c_X13_four_1 l D cy _ L f9 m0 w56 F_m0 _ n2 hC9 E_m0) (cwV 1 hts (pp_gV pp17 pp16 pp18 pp19 pp20) rfl rfl rfl pd_X13_four ⟨Nat.le_of_ble_eq_true rfl, Nat.le_of_ble_eq_true rfl⟩) (pq_preV hG hw9 hC9 (j := 0) rfl rfl) rfl rfl hl.1 rfl (lv_room (Nat.le_of_ble_eq_true rfl)) dX13_feed_30 ⟨Nat.le_of_ble_eq_true rfl, Nat.le_of_ble_eq_true rfl⟩) (fun cs1 H locs hP hW => ?_)
  obtain ⟨F_m0, g_w56, rfl, E_m0⟩ := hP
  have hW : pq_W D _ s.heap L f _ [(m0, .inr (13, F_m0)), (w56, .inl (cy 0, 1000, .inl _))] H locs := hW
  refine lv_aload_n hx hb dX13_feed_33 rfl (lv_at hl 0 rfl) ?_
  refine lv_iload_n hx hb dX13_feed_34 rfl (lv_at hl 3 rfl) ?_
  refine pq_callv hW [0, 1] [] (by decide) rfl rfl (fun f9 hw9 hC9 => va_runV (C := RX13) (As := [.int n3]) (rest := []) ⟨hx, hb, hml, hown, hts⟩ (c_X13_four_2 l D cy _ L f9 m0 w56 F_m0 _ n3 hC9 E_m0) (cwV 1 hts (pp_gV pp17 pp16 pp18 pp19 pp20) rfl rfl rfl pd_X13_four ⟨Nat.le_of_ble_eq_true rfl, Nat.le_of_ble_eq_true rfl⟩) (pq_preV hG hw9 hC9 (j := 0) rfl rfl) rfl rfl hl.1 rfl (lv_room (Nat.le_of_ble_eq_true rfl)) dX13_feed_35 ⟨Nat.le_of_ble_eq_true rfl, Nat.le_of_ble_eq_true rfl⟩) (fun cs1 H locs hP hW => ?_)
  obtain ⟨F_m0, g_w56, rfl, E_m0⟩ := hP
  have hW : pq_W D _ s.heap L f _ [(m0, .inr (13, F_m0)), (w56, .inl (cy 0, 1000, .inl _))] H locs := hW
  refine lv_aload_n hx hb dX13_feed_38 rfl (lv_at hl 0 rfl) ?_
  refine lv_iload hx hb dX13_feed_39 (lv_at hl 4 rfl) ?_
  refine pq_callv hW [0, 1] [] (by decide) rfl rfl (fun f9 hw9 hC9 => va_runV (C := RX13) (As := [.int n4]) (rest := []) ⟨hx, hb, hml, hown, hts⟩ (c_X13_four_3 l D cy _ L f9 m0 w56 F_m0 _ n4 hC9 E_m0) (cwV 1 hts (pp_gV pp17 pp16 pp18 pp19 pp20) rfl rfl rfl pd_X13_four ⟨Nat.le_of_ble_eq_true rfl, Nat.le_of_ble_eq_true rfl⟩) (pq_preV hG hw9 hC9 (j := 0) rfl rfl) rfl rfl hl.1 rfl (lv_room (Nat.le_of_ble_eq_true rfl)) dX13_feed_41 ⟨Nat.le_of_ble_eq_true rfl, Nat.le_of_ble_eq_true rfl⟩) (fun cs1 H locs hP hW => ?_)
  obtain ⟨F_m0, g_w56, rfl, E_m0⟩ := hP
  have hW : pq_W D _ s.heap L f _ [(m0, .inr (13, F_m0)), (w56, .inl (cy 0, 1000, .inl _))] H locs := hW
  refine lv_aload_n hx hb dX13_feed_44 rfl (lv_at hl 0 rfl) ?_
  refine lv_iload hx hb dX13_feed_45 (lv_at hl 5 rfl) ?_
  refine pq_callv hW [0, 1] [] (by decide) rfl rfl (fun f9 hw9 hC9 => va_runV (C := RX13) (As := [.int n5]) (rest := []) ⟨hx, hb, hml, hown, hts⟩ (c_X13_four_4 l D cy _ L f9 m0 w56 F_m0 _ n5 hC9 E_m0) (cwV 1 hts (pp_gV pp17 pp16 pp18 pp19 pp20) rfl rfl rfl pd_X13_four ⟨Nat.le_of_ble_eq_true rfl, Nat.le_of_ble_eq_true rfl⟩) (pq_preV hG hw9 hC9 (j := 0) rfl rfl) rfl rfl hl.1 rfl (lv_room (Nat.le_of_ble_eq_true rfl)) dX13_feed_47 ⟨Nat.le_of_ble_eq_true rfl, Nat.le_of_ble_eq_true rfl⟩) (fun cs1 H locs hP hW => ?_)
  obtain ⟨F_m0, g_w56, rfl, E_m0⟩ := hP
  have hW : pq_W D _ s.heap L f _ [(m0, .inr (13, F_m0)), (w56, .inl (cy 0, 1000, .inl _))] H locs := hW
  refine lv_aload_n hx hb dX13_feed_50 rfl (lv_at hl 0 rfl) ?_
  refine pq_get (own := RX13) (ci := 13) (C := RX13) (T := TX13) (N := 229) (k := 68) (v := .int 20) hx hb hpp pi13 rfl hown hG hW 0 rfl E_m0 19 rfl (by decide) pp14 dX13_feed_51 ?_
  exact pq_iret hx hb hr hlocks rfl (hW.pick (cs2 := [(m0, .inr (13, F_m0))]) [0] (by decide) rfl) ⟨F_m0, 0, rfl, E_m0.one (i := 0) rfl, Or.inr ⟨rfl, not_false, rfl⟩⟩ dX13_feed_54
set_option maxHeartbeats 4000000 in
set_option maxRecDepth 100000 in
/-- TongueHouseModel.bad on a new object -/
theorem c_X13_bad (l : Launch) (D : va_G) (cy : Nat → ClassId) (sz : Nat) (L : List Nat) (f : Nat → va_E) {w10 w13 w14 w15 w16 w17 w18 w19 w56 w59 w115 : Nat} (m0 : Nat) (F_m0 : List Value) (hC : pq_C L f [(m0, .inr (13, F_m0))]) (E_m0 : pq_E 229 F_m0 [(0, .int 0), (1, .int 0), (2, .int 0), (3, .int 0), (4, .int 0), (5, .int 0), (6, .int (-1)), (16, .ref w10), (19, .ref w13), (20, .ref w14), (21, .ref w15), (22, .ref w16), (23, .ref w17), (24, .ref w18), (25, .ref w19), (42, .int 0), (59, .int 0), (64, .int 0), (65, .ref w56), (68, .int 0), (69, .int 0), (70, .int 0), (71, .int 0), (72, .int 0), (73, .int 0), (74, .int 0), (75, .long 0), (76, .int 0), (79, .int 0), (97, .ref w59), (99, .int 0), (100, .int 0), (132, .int 0), (136, .int 0), (179, .int 0), (180, .int 0), (181, .long 0), (186, .int 0), (188, .int 0), (190, .ref w115), (201, .int 0), (206, .int 0), (211, .int 0)]) : Met l yX13_bad (Cond.code yX13_bad cX13_bad 1 (some .int) :: pp_ws) ({ frames := 0, cells := 0, slots := 0, locals := 0 }) (pw_Pc D cy [.ref m0] sz L f) (pq_Qi D sz L f [m0] (fun r cs1 => (∃ (F_m0 : List Value), r = 0 ∧ cs1 = [(m0, .inr (13, F_m0))] ∧ pq_E 229 F_m0 [(0, .int 1), (1, .int 0), (2, .int 0), (3, .int 0), (4, .int 0), (5, .int 0), (6, .int (-1)), (16, .ref w10), (19, .ref w13), (20, .ref w14), (21, .ref w15), (22, .ref w16), (23, .ref w17), (24, .ref w18), (25, .ref w19), (42, .int 0), (59, .int 0), (64, .int 0), (65, .ref w56), (68, .int 0), (69, .int 0), (70, .int 0), (71, .int 0), (72, .int 0), (73, .int 0), (74, .int 0), (75, .long 0), (76, .int 0), (79, .int 0), (97, .ref w59), (99, .int 0), (100, .int 0), (132, .int 0), (136, .int 0), (179, .int 0), (180, .int 0), (181, .long 0), (186, .int 0), (188, .int 0), (190, .ref w115), (201, .int 0), (206, .int 0), (211, .int 0)]))) 0 0 (pw_A L f sz) := by
  refine Met.ofW (cc := cX13_bad) (maxL := 1) (ret := (some .int)) (by decide) rfl ?_
  intro p e s m args below meth c s₁ B hml hv
  obtain ⟨rfl, hsz, hG, hP, hD0⟩ := hv
  have hx := B.exec
  have hb := B.bytes
  have hr := B.returns
  have hts := atoms_spec (ws := Cond.code yX13_bad cX13_bad 1 (some .int) :: pp_ws) B.pre
  have hpp := fun (w : Cond) (h : w ∈ pp_ws) => hts w (List.mem_cons_of_mem _ h)
  have hown : s.vm.findClass RX13 = some m.cls := findClass_of_methodNamed B.named
  have hlocks := B.notSynchronized
  have hw := pw_start (cy := cy) hsz hP hD0
  have hW := pq_start (as := [m0]) hw hC rfl
  have hl := lv_entry ([.ref m0]) (n := 1) (Nat.le_of_ble_eq_true rfl)
  rw [lg_entry_eq]
  generalize (lg_sl ([.ref m0]) ++ List.replicate (1 - (lg_sl ([.ref m0])).length) Slot.unset).toArray = ls at hl ⊢
  have hl : lv_has ls 1 [(0, .ref m0)] := hl
  refine lv_aload_n hx hb dX13_bad_0 rfl (lv_at hl 0 rfl) ?_
  refine lv_iconst (v := 1) hx hb dX13_bad_1 (by decide) ?_
  refine pq_put (own := RX13) (ci := 13) (C := RX13) (T := TX13) (N := 229) (kv' := [(0, .int 1), (1, .int 0), (2, .int 0), (3, .int 0), (4, .int 0), (5, .int 0), (6, .int (-1)), (16, .ref w10), (19, .ref w13), (20, .ref w14), (21, .ref w15), (22, .ref w16), (23, .ref w17), (24, .ref w18), (25, .ref w19), (42, .int 0), (59, .int 0), (64, .int 0), (65, .ref w56), (68, .int 0), (69, .int 0), (70, .int 0), (71, .int 0), (72, .int 0), (73, .int 0), (74, .int 0), (75, .long 0), (76, .int 0), (79, .int 0), (97, .ref w59), (99, .int 0), (100, .int 0), (132, .int 0), (136, .int 0), (179, .int 0), (180, .int 0), (181, .long 0), (186, .int 0), (188, .int 0), (190, .ref w115), (201, .int 0), (206, .int 0), (211, .int 0)]) hx hb hpp pi13 tyX13 tyX13_ok nmX13 rfl hown hG hW 0 rfl E_m0 0 (by decide) rfl rfl rfl rfl pp13 dX13_bad_2 (fun F_m0 H locs hW E_m0 => ?_)
  have hW : pq_W D _ s.heap L f _ [(m0, .inr (13, F_m0))] H locs := hW
  refine lv_iconst (v := 0) hx hb dX13_bad_5 (by decide) ?_
  exact pq_iret hx hb hr hlocks rfl hW ⟨_, rfl, rfl, E_m0⟩ dX13_bad_6
theorem pz_X13_end_1 (n1 : Int32) (c1 : n1 < 0) : n1 < 0 ∨ 0 < n1 := by
  have k0 : (0 : Int32).toInt = 0 := by decide
  simp only [Int32.lt_iff_toInt_lt, Int32.le_iff_toInt_le, ← Int32.toInt_inj] at c1 ⊢
  omega
theorem pz_X13_end_2 (n1 : Int32) (c1 : ¬ n1 < 0) (c2 : n1 ≤ 0) : ¬ (n1 < 0 ∨ 0 < n1) := by
  have k0 : (0 : Int32).toInt = 0 := by decide
  simp only [Int32.lt_iff_toInt_lt, Int32.le_iff_toInt_le, ← Int32.toInt_inj] at c1 c2 ⊢
  omega
theorem pz_X13_end_3 (n1 : Int32) (c1 : ¬ n1 < 0) (c2 : ¬ n1 ≤ 0) : n1 < 0 ∨ 0 < n1 := by
  have k0 : (0 : Int32).toInt = 0 := by decide
  simp only [Int32.lt_iff_toInt_lt, Int32.le_iff_toInt_le, ← Int32.toInt_inj] at c1 c2 ⊢
  omega
set_option maxHeartbeats 4000000 in
set_option maxRecDepth 100000 in
/-- TongueHouseModel.end on a new object -/
theorem c_X13_end (l : Launch) (D : va_G) (cy : Nat → ClassId) (sz : Nat) (L : List Nat) (f : Nat → va_E) {w10 w13 w14 w15 w16 w17 w18 w19 w56 w59 w115 : Nat} (m0 : Nat) (F_m0 : List Value) (n1 : Int32) (hC : pq_C L f [(m0, .inr (13, F_m0))]) (E_m0 : pq_E 229 F_m0 [(0, .int 0), (1, .int 0), (2, .int 0), (3, .int 0), (4, .int 0), (5, .int 0), (6, .int (-1)), (16, .ref w10), (19, .ref w13), (20, .ref w14), (21, .ref w15), (22, .ref w16), (23, .ref w17), (24, .ref w18), (25, .ref w19), (42, .int 0), (59, .int 0), (64, .int 0), (65, .ref w56), (68, .int 0), (69, .int 0), (70, .int 0), (71, .int 0), (72, .int 0), (73, .int 0), (74, .int 0), (75, .long 0), (76, .int 0), (79, .int 0), (97, .ref w59), (99, .int 0), (100, .int 0), (132, .int 0), (136, .int 0), (179, .int 0), (180, .int 0), (181, .long 0), (186, .int 0), (188, .int 0), (190, .ref w115), (201, .int 0), (206, .int 0), (211, .int 0)]) : Met l yX13_end (Cond.code yX13_end cX13_end 2 (some .int) :: pp_ws) ({ frames := 1, cells := 0, slots := 0, locals := 20 }) (pw_Pc D cy [.ref m0, .int n1] sz L f) (pq_Qi D sz L f [m0] (fun r cs1 => ∃ (G : List Value) (t : Int32), cs1 = [(m0, .inr (13, G))] ∧ pq_E 229 G [(0, .int t)] ∧ ((t = 1 ∧ (n1 < 0 ∨ 0 < n1)) ∨ (t = 0 ∧ ¬ (n1 < 0 ∨ 0 < n1) ∧ r = n1)))) 0 0 (pw_A L f sz) := by
  refine Met.ofW (cc := cX13_end) (maxL := 2) (ret := (some .int)) (by decide) rfl ?_
  intro p e s m args below meth c s₁ B hml hv
  obtain ⟨rfl, hsz, hG, hP, hD0⟩ := hv
  have hx := B.exec
  have hb := B.bytes
  have hr := B.returns
  have hts := atoms_spec (ws := Cond.code yX13_end cX13_end 2 (some .int) :: pp_ws) B.pre
  have hpp := fun (w : Cond) (h : w ∈ pp_ws) => hts w (List.mem_cons_of_mem _ h)
  have hown : s.vm.findClass RX13 = some m.cls := findClass_of_methodNamed B.named
  have hlocks := B.notSynchronized
  have hw := pw_start (cy := cy) hsz hP hD0
  have hW := pq_start (as := [m0]) hw hC rfl
  have hl := lv_entry ([.ref m0, .int n1]) (n := 2) (Nat.le_of_ble_eq_true rfl)
  rw [lg_entry_eq]
  generalize (lg_sl ([.ref m0, .int n1]) ++ List.replicate (2 - (lg_sl ([.ref m0, .int n1])).length) Slot.unset).toArray = ls at hl ⊢
  have hl : lv_has ls 2 [(0, .ref m0), (1, .int n1)] := hl
  refine lv_aload_n hx hb dX13_end_0 rfl (lv_at hl 0 rfl) ?_
  refine lv_iconst (v := 0) hx hb dX13_end_1 (by decide) ?_
  refine pq_put (own := RX13) (ci := 13) (C := RX13) (T := TX13) (N := 229) (kv' := [(0, .int 0), (1, .int 0), (2, .int 0), (3, .int 0), (4, .int 0), (5, .int 0), (6, .int (-1)), (16, .ref w10), (19, .ref w13), (20, .ref w14), (21, .ref w15), (22, .ref w16), (23, .ref w17), (24, .ref w18), (25, .ref w19), (42, .int 0), (59, .int 0), (64, .int 0), (65, .ref w56), (68, .int 0), (69, .int 0), (70, .int 0), (71, .int 0), (72, .int 0), (73, .int 0), (74, .int 0), (75, .long 0), (76, .int 0), (79, .int 0), (97, .ref w59), (99, .int 0), (100, .int 0), (132, .int 0), (136, .int 0), (179, .int 0), (180, .int 0), (181, .long 0), (186, .int 0), (188, .int 0), (190, .ref w115), (201, .int 0), (206, .int 0), (211, .int 0)]) hx hb hpp pi13 tyX13 tyX13_ok nmX13 rfl hown hG hW 0 rfl E_m0 0 (by decide) rfl rfl rfl rfl pp13 dX13_end_2 (fun F_m0 H locs hW E_m0 => ?_)
  have hW : pq_W D _ s.heap L f _ [(m0, .inr (13, F_m0))] H locs := hW
  refine lv_iload_n hx hb dX13_end_5 rfl (lv_at hl 1 rfl) ?_
  refine lv_if_lt (tgt := 17) hx hb dX13_end_6 (by decide) (fun c1 => ?_) (fun c1 => ?_)
  · refine lv_aload_n hx hb dX13_end_17 rfl (lv_at hl 0 rfl) ?_
    refine pq_calli hW [0] [] (by decide) rfl rfl (fun f9 hw9 hC9 => va_runV (C := RX13) (As := []) (rest := []) ⟨hx, hb, hml, hown, hts⟩ (c_X13_bad l D cy _ L f9 m0 F_m0 hC9 E_m0) (cwV 0 hts (pp_gV pp24 pp23 pp25 pp26 pp20) rfl rfl rfl pd_X13_bad ⟨Nat.le_of_ble_eq_true rfl, Nat.le_of_ble_eq_true rfl⟩) (pq_preV hG hw9 hC9 (j := 0) rfl rfl) rfl rfl hl.1 rfl (lv_room (Nat.le_of_ble_eq_true rfl)) dX13_end_18 ⟨Nat.le_of_ble_eq_true rfl, Nat.le_of_ble_eq_true rfl⟩) (fun r cs1 H locs hP hW => ?_)
    obtain ⟨F_m0, rfl, rfl, E_m0⟩ := hP
    have hW : pq_W D _ s.heap L f _ [(m0, .inr (13, F_m0))] H locs := hW
    exact pq_iret hx hb hr hlocks rfl hW ⟨F_m0, 1, rfl, E_m0.one (i := 0) rfl, Or.inl ⟨rfl, (pz_X13_end_1 n1 c1)⟩⟩ dX13_end_21
  · refine lv_iload_n hx hb dX13_end_9 rfl (lv_at hl 1 rfl) ?_
    refine lv_aload_n hx hb dX13_end_10 rfl (lv_at hl 0 rfl) ?_
    refine pq_get (own := RX13) (ci := 13) (C := RX13) (T := TX13) (N := 229) (k := 68) (v := .int 0) hx hb hpp pi13 rfl hown hG hW 0 rfl E_m0 19 rfl (by decide) pp14 dX13_end_11 ?_
    refine lv_icmp_le (tgt := 22) hx hb dX13_end_14 (by decide) (fun c2 => ?_) (fun c2 => ?_)
    · refine lv_aload_n hx hb dX13_end_22 rfl (lv_at hl 0 rfl) ?_
      refine lv_iload_n hx hb dX13_end_23 rfl (lv_at hl 1 rfl) ?_
      refine pq_put (own := RX13) (ci := 13) (C := RX13) (T := TX13) (N := 229) (kv' := [(0, .int 0), (1, .int 0), (2, .int 0), (3, .int 0), (4, .int 0), (5, .int 0), (6, .int (-1)), (16, .ref w10), (19, .ref w13), (20, .ref w14), (21, .ref w15), (22, .ref w16), (23, .ref w17), (24, .ref w18), (25, .ref w19), (42, .int 0), (59, .int 0), (64, .int 0), (65, .ref w56), (68, .int n1), (69, .int 0), (70, .int 0), (71, .int 0), (72, .int 0), (73, .int 0), (74, .int 0), (75, .long 0), (76, .int 0), (79, .int 0), (97, .ref w59), (99, .int 0), (100, .int 0), (132, .int 0), (136, .int 0), (179, .int 0), (180, .int 0), (181, .long 0), (186, .int 0), (188, .int 0), (190, .ref w115), (201, .int 0), (206, .int 0), (211, .int 0)]) hx hb hpp pi13 tyX13 tyX13_ok nmX13 rfl hown hG hW 0 rfl E_m0 68 (by decide) rfl rfl rfl rfl pp14 dX13_end_24 (fun F_m0 H locs hW E_m0 => ?_)
      have hW : pq_W D _ s.heap L f _ [(m0, .inr (13, F_m0))] H locs := hW
      refine lv_iload_n hx hb dX13_end_27 rfl (lv_at hl 1 rfl) ?_
      exact pq_iret hx hb hr hlocks rfl hW ⟨F_m0, 0, rfl, E_m0.one (i := 0) rfl, Or.inr ⟨rfl, (pz_X13_end_2 n1 c1 c2), rfl⟩⟩ dX13_end_28
    · refine lv_aload_n hx hb dX13_end_17 rfl (lv_at hl 0 rfl) ?_
      refine pq_calli hW [0] [] (by decide) rfl rfl (fun f9 hw9 hC9 => va_runV (C := RX13) (As := []) (rest := []) ⟨hx, hb, hml, hown, hts⟩ (c_X13_bad l D cy _ L f9 m0 F_m0 hC9 E_m0) (cwV 0 hts (pp_gV pp24 pp23 pp25 pp26 pp20) rfl rfl rfl pd_X13_bad ⟨Nat.le_of_ble_eq_true rfl, Nat.le_of_ble_eq_true rfl⟩) (pq_preV hG hw9 hC9 (j := 0) rfl rfl) rfl rfl hl.1 rfl (lv_room (Nat.le_of_ble_eq_true rfl)) dX13_end_18 ⟨Nat.le_of_ble_eq_true rfl, Nat.le_of_ble_eq_true rfl⟩) (fun r cs1 H locs hP hW => ?_)
      obtain ⟨F_m0, rfl, rfl, E_m0⟩ := hP
      have hW : pq_W D _ s.heap L f _ [(m0, .inr (13, F_m0))] H locs := hW
      exact pq_iret hx hb hr hlocks rfl hW ⟨F_m0, 1, rfl, E_m0.one (i := 0) rfl, Or.inl ⟨rfl, (pz_X13_end_3 n1 c1 c2)⟩⟩ dX13_end_21
