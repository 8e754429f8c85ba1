set_option maxHeartbeats 4000000 in
set_option maxRecDepth 100000 in
/-- TongueHouseModel.reads on a new object -/
theorem c_X13_reads (l : Launch) (D : va_G) (cy : Nat → ClassId) (sz : Nat) (L : List Nat) (f : Nat → va_E) {w10 w13 w14 w15 w16 w17 w18 w19 w56 w59 w115 : Nat} (m0 : Nat) (F_m0 : List Value) (hC : pq_C L f [(m0, .inr (13, F_m0))]) (E_m0 : pq_E 229 F_m0 [(0, .int 0), (1, .int 0), (2, .int 0), (3, .int 0), (4, .int 0), (5, .int 0), (6, .int (-1)), (16, .ref w10), (19, .ref w13), (20, .ref w14), (21, .ref w15), (22, .ref w16), (23, .ref w17), (24, .ref w18), (25, .ref w19), (42, .int 0), (59, .int 0), (64, .int 0), (65, .ref w56), (68, .int 0), (69, .int 0), (70, .int 0), (71, .int 0), (72, .int 0), (73, .int 0), (74, .int 0), (75, .long 0), (76, .int 0), (79, .int 0), (97, .ref w59), (99, .int 0), (100, .int 0), (132, .int 0), (136, .int 0), (179, .int 0), (180, .int 0), (181, .long 0), (186, .int 0), (188, .int 0), (190, .ref w115), (201, .int 0), (206, .int 0), (211, .int 0)]) : Met l yX13_reads (Cond.code yX13_reads cX13_reads 2 none :: pp_ws) ({ frames := 0, cells := 0, slots := 0, locals := 0 }) (pw_Pc D cy [.ref m0] sz L f) (pq_Qv D sz L f [m0] (fun cs1 => (∃ (F_m0 : List Value), cs1 = [(m0, .inr (13, F_m0))] ∧ pq_E 229 F_m0 [(0, .int 0), (1, .int 0), (2, .int 0), (3, .int 0), (4, .int 0), (5, .int 0), (6, .int (-1)), (16, .ref w10), (19, .ref w13), (20, .ref w14), (21, .ref w15), (22, .ref w16), (23, .ref w17), (24, .ref w18), (25, .ref w19), (42, .int 0), (59, .int 0), (64, .int 0), (65, .ref w56), (68, .int 0), (69, .int 0), (70, .int 0), (71, .int 0), (72, .int 0), (73, .int 0), (74, .int 0), (75, .long 0), (76, .int 0), (79, .int 0), (97, .ref w59), (99, .int 0), (100, .int 0), (132, .int 0), (136, .int 0), (179, .int 0), (180, .int 0), (181, .long 0), (186, .int 0), (188, .int 0), (190, .ref w115), (201, .int 0), (206, .int 0), (211, .int 0)]))) 0 0 (pw_A L f sz) := by
  refine Met.ofW (cc := cX13_reads) (maxL := 2) (ret := none) (by decide) rfl ?_
  intro p e s m args below meth c s₁ B hml hv
  obtain ⟨rfl, hsz, hG, hP, hD0⟩ := hv
  have hx := B.exec
  have hb := B.bytes
  have hr := B.returns
  have hts := atoms_spec (ws := Cond.code yX13_reads cX13_reads 2 none :: pp_ws) B.pre
  have hpp := fun (w : Cond) (h : w ∈ pp_ws) => hts w (List.mem_cons_of_mem _ h)
  have hown : s.vm.findClass RX13 = some m.cls := findClass_of_methodNamed B.named
  have hlocks := B.notSynchronized
  have hw := pw_start (cy := cy) hsz hP hD0
  have hW := pq_start (as := [m0]) hw hC rfl
  have hl := lv_entry ([.ref m0]) (n := 2) (Nat.le_of_ble_eq_true rfl)
  rw [lg_entry_eq]
  generalize (lg_sl ([.ref m0]) ++ List.replicate (2 - (lg_sl ([.ref m0])).length) Slot.unset).toArray = ls at hl ⊢
  have hl : lv_has ls 2 [(0, .ref m0)] := hl
  refine lv_aload_n hx hb dX13_reads_0 rfl (lv_at hl 0 rfl) ?_
  refine lv_aload_n hx hb dX13_reads_1 rfl (lv_at hl 0 rfl) ?_
  refine pq_get (own := RX13) (ci := 13) (C := RX13) (T := TX13) (N := 229) (k := 68) (v := .int 0) hx hb hpp pi13 rfl hown hG hW 0 rfl E_m0 19 rfl (by decide) pp14 dX13_reads_2 ?_
  refine pq_put (own := RX13) (ci := 13) (C := RX13) (T := TX13) (N := 229) (kv' := [(0, .int 0), (1, .int 0), (2, .int 0), (3, .int 0), (4, .int 0), (5, .int 0), (6, .int (-1)), (16, .ref w10), (19, .ref w13), (20, .ref w14), (21, .ref w15), (22, .ref w16), (23, .ref w17), (24, .ref w18), (25, .ref w19), (42, .int 0), (59, .int 0), (64, .int 0), (65, .ref w56), (68, .int 0), (69, .int 0), (70, .int 0), (71, .int 0), (72, .int 0), (73, .int 0), (74, .int 0), (75, .long 0), (76, .int 0), (79, .int 0), (97, .ref w59), (99, .int 0), (100, .int 0), (132, .int 0), (136, .int 0), (179, .int 0), (180, .int 0), (181, .long 0), (186, .int 0), (188, .int 0), (190, .ref w115), (201, .int 0), (206, .int 0), (211, .int 0)]) hx hb hpp pi13 tyX13 tyX13_ok nmX13 rfl hown hG hW 0 rfl E_m0 69 (by decide) rfl rfl rfl rfl pp68 dX13_reads_5 (fun F_m0 H locs hW E_m0 => ?_)
  have hW : pq_W D _ s.heap L f _ [(m0, .inr (13, F_m0))] H locs := hW
  refine lv_iconst (v := 0) hx hb dX13_reads_8 (by decide) ?_
  refine lv_istore_n (lv' := [(1, .int 0), (0, .ref m0)]) hx hb dX13_reads_9 rfl hl (by decide) rfl (fun ls hl => ?_)
  refine lv_iload_n hx hb dX13_reads_10 rfl (lv_at hl 0 rfl) ?_
  refine lv_aload_n hx hb dX13_reads_11 rfl (lv_at hl 1 rfl) ?_
  refine pq_get (own := RX13) (ci := 13) (C := RX13) (T := TX13) (N := 229) (k := 68) (v := .int 0) hx hb hpp pi13 rfl hown hG hW 0 rfl E_m0 19 rfl (by decide) pp14 dX13_reads_12 ?_
  refine lv_icmp_ge (tgt := 36) hx hb dX13_reads_15 (by decide) (fun _ => ?_) (fun c9 => absurd c9 (by decide))
  refine lv_aload_n hx hb dX13_reads_36 rfl (lv_at hl 1 rfl) ?_
  refine lv_iconst (v := 0) hx hb dX13_reads_37 (by decide) ?_
  refine pq_put (own := RX13) (ci := 13) (C := RX13) (T := TX13) (N := 229) (kv' := [(0, .int 0), (1, .int 0), (2, .int 0), (3, .int 0), (4, .int 0), (5, .int 0), (6, .int (-1)), (16, .ref w10), (19, .ref w13), (20, .ref w14), (21, .ref w15), (22, .ref w16), (23, .ref w17), (24, .ref w18), (25, .ref w19), (42, .int 0), (59, .int 0), (64, .int 0), (65, .ref w56), (68, .int 0), (69, .int 0), (70, .int 0), (71, .int 0), (72, .int 0), (73, .int 0), (74, .int 0), (75, .long 0), (76, .int 0), (79, .int 0), (97, .ref w59), (99, .int 0), (100, .int 0), (132, .int 0), (136, .int 0), (179, .int 0), (180, .int 0), (181, .long 0), (186, .int 0), (188, .int 0), (190, .ref w115), (201, .int 0), (206, .int 0), (211, .int 0)]) hx hb hpp pi13 tyX13 tyX13_ok nmX13 rfl hown hG hW 0 rfl E_m0 68 (by decide) rfl rfl rfl rfl pp14 dX13_reads_38 (fun F_m0 H locs hW E_m0 => ?_)
  have hW : pq_W D _ s.heap L f _ [(m0, .inr (13, F_m0))] H locs := hW
  exact pq_vret hx hb hr hlocks hW ⟨_, rfl, E_m0⟩ dX13_reads_41
set_option maxHeartbeats 4000000 in
set_option maxRecDepth 100000 in
/-- TongueHouseModel.remember on a new object -/
theorem c_X13_remember (l : Launch) (D : va_G) (cy : Nat → ClassId) (sz : Nat) (L : List Nat) (f : Nat → va_E) {w10 w56 w115 : Nat} (m0 w59 w13 w14 w15 w16 w17 w18 w19 : Nat) (F_m0 : List Value) (g_w59 : Nat → Int32) (hC : pq_C L f [(m0, .inr (13, F_m0)), (w59, .inl (cy 1, 80, .inl g_w59)), (w13, .inl (cy 1, 8, .inl (fun _ => 0))), (w14, .inl (cy 1, 8, .inl (fun _ => 0))), (w15, .inl (cy 1, 8, .inl (fun _ => 0))), (w16, .inl (cy 1, 8, .inl (fun _ => 0))), (w17, .inl (cy 1, 8, .inl (fun _ => 0))), (w18, .inl (cy 1, 8, .inl (fun _ => 0))), (w19, .inl (cy 1, 8, .inl (fun _ => 0)))]) (E_m0 : pq_E 229 F_m0 [(0, .int 0), (1, .int 0), (2, .int 0), (3, .int 0), (4, .int 0), (5, .int 0), (6, .int (-1)), (16, .ref w10), (19, .ref w13), (20, .ref w14), (21, .ref w15), (22, .ref w16), (23, .ref w17), (24, .ref w18), (25, .ref w19), (42, .int 0), (59, .int 0), (64, .int 0), (65, .ref w56), (68, .int 0), (69, .int 0), (70, .int 0), (71, .int 0), (72, .int 0), (73, .int 0), (74, .int 0), (75, .long 0), (76, .int 0), (79, .int 0), (97, .ref w59), (99, .int 0), (100, .int 0), (132, .int 0), (136, .int 0), (179, .int 0), (180, .int 0), (181, .long 0), (186, .int 0), (188, .int 0), (190, .ref w115), (201, .int 0), (206, .int 0), (211, .int 0)]) : Met l yX13_remember (Cond.code yX13_remember cX13_remember 3 none :: pp_ws) ({ frames := 0, cells := 0, slots := 0, locals := 0 }) (pw_Pc D cy [.ref m0] sz L f) (pq_Qv D sz L f [m0, w59, w13, w14, w15, w16, w17, w18, w19] (fun cs1 => (∃ (F_m0 : List Value) (g_w59 : Nat → Int32), cs1 = [(m0, .inr (13, F_m0)), (w59, .inl (cy 1, 80, .inl g_w59)), (w13, .inl (cy 1, 8, .inl (fun _ => 0))), (w14, .inl (cy 1, 8, .inl (fun _ => 0))), (w15, .inl (cy 1, 8, .inl (fun _ => 0))), (w16, .inl (cy 1, 8, .inl (fun _ => 0))), (w17, .inl (cy 1, 8, .inl (fun _ => 0))), (w18, .inl (cy 1, 8, .inl (fun _ => 0))), (w19, .inl (cy 1, 8, .inl (fun _ => 0)))] ∧ pq_E 229 F_m0 [(0, .int 0), (1, .int 0), (2, .int 0), (3, .int 0), (4, .int 0), (5, .int 0), (6, .int (-1)), (16, .ref w10), (19, .ref w13), (20, .ref w14), (21, .ref w15), (22, .ref w16), (23, .ref w17), (24, .ref w18), (25, .ref w19), (42, .int 0), (59, .int 0), (64, .int 0), (65, .ref w56), (68, .int 0), (69, .int 0), (70, .int 0), (71, .int 0), (72, .int 0), (73, .int 0), (74, .int 0), (75, .long 0), (76, .int 0), (79, .int 0), (97, .ref w59), (99, .int 0), (100, .int 0), (132, .int 0), (136, .int 0), (179, .int 0), (180, .int 0), (181, .long 0), (186, .int 0), (188, .int 0), (190, .ref w115), (201, .int 0), (206, .int 0), (211, .int 0)]))) 0 0 (pw_A L f sz) := by
  refine Met.ofW (cc := cX13_remember) (maxL := 3) (ret := none) (by decide) rfl ?_
  intro p e s m args below meth c s₁ B hml hv
  obtain ⟨rfl, hsz, hG, hP, hD0⟩ := hv
  have hx := B.exec
  have hb := B.bytes
  have hr := B.returns
  have hts := atoms_spec (ws := Cond.code yX13_remember cX13_remember 3 none :: pp_ws) B.pre
  have hpp := fun (w : Cond) (h : w ∈ pp_ws) => hts w (List.mem_cons_of_mem _ h)
  have hown : s.vm.findClass RX13 = some m.cls := findClass_of_methodNamed B.named
  have hlocks := B.notSynchronized
  have hw := pw_start (cy := cy) hsz hP hD0
  have hW := pq_start (as := [m0, w59, w13, w14, w15, w16, w17, w18, w19]) hw hC rfl
  have hl := lv_entry ([.ref m0]) (n := 3) (Nat.le_of_ble_eq_true rfl)
  rw [lg_entry_eq]
  generalize (lg_sl ([.ref m0]) ++ List.replicate (3 - (lg_sl ([.ref m0])).length) Slot.unset).toArray = ls at hl ⊢
  have hl : lv_has ls 3 [(0, .ref m0)] := hl
  refine lv_iconst (v := 0) hx hb dX13_remember_0 (by decide) ?_
  refine lv_istore_n (lv' := [(1, .int 0), (0, .ref m0)]) hx hb dX13_remember_1 rfl hl (by decide) rfl (fun ls hl => ?_)
  refine lv_aload_n hx hb dX13_remember_2 rfl (lv_at hl 1 rfl) ?_
  refine pq_get (own := RX13) (ci := 13) (C := RX13) (T := TX13) (N := 229) (k := 97) (v := .ref w59) hx hb hpp pi13 rfl hown hG hW 0 rfl E_m0 29 rfl (by decide) pp73 dX13_remember_3 ?_
  refine lv_iload_n hx hb dX13_remember_6 rfl (lv_at hl 0 rfl) ?_
  refine lv_iinc (v := 1) (lv' := [(1, .int 1), (0, .ref m0)]) hx hb dX13_remember_7 hl (k := 0) rfl (by decide) (by decide) rfl (fun ls hl => ?_)
  refine lv_aload_n hx hb dX13_remember_10 rfl (lv_at hl 1 rfl) ?_
  refine pq_get (own := RX13) (ci := 13) (C := RX13) (T := TX13) (N := 229) (k := 1) (v := .int 0) hx hb hpp pi13 rfl hown hG hW 0 rfl E_m0 1 rfl (by decide) pp74 dX13_remember_11 ?_
  refine pq_iast hx hb hG hW 1 rfl (vp_in_iff.mpr ⟨by decide, by decide⟩) dX13_remember_14 (fun H locs hW => ?_)
  have hW : pq_W D _ s.heap L f _ [(m0, .inr (13, F_m0)), (w59, .inl (cy 1, 80, .inl _)), (w13, .inl (cy 1, 8, .inl (fun _ => 0))), (w14, .inl (cy 1, 8, .inl (fun _ => 0))), (w15, .inl (cy 1, 8, .inl (fun _ => 0))), (w16, .inl (cy 1, 8, .inl (fun _ => 0))), (w17, .inl (cy 1, 8, .inl (fun _ => 0))), (w18, .inl (cy 1, 8, .inl (fun _ => 0))), (w19, .inl (cy 1, 8, .inl (fun _ => 0)))] H locs := hW
  refine lv_aload_n hx hb dX13_remember_15 rfl (lv_at hl 1 rfl) ?_
  refine pq_get (own := RX13) (ci := 13) (C := RX13) (T := TX13) (N := 229) (k := 97) (v := .ref w59) hx hb hpp pi13 rfl hown hG hW 0 rfl E_m0 29 rfl (by decide) pp73 dX13_remember_16 ?_
  refine lv_iload_n hx hb dX13_remember_19 rfl (lv_at hl 0 rfl) ?_
  refine lv_iinc (v := 2) (lv' := [(1, .int 2), (0, .ref m0)]) hx hb dX13_remember_20 hl (k := 0) rfl (by decide) (by decide) rfl (fun ls hl => ?_)
  refine lv_aload_n hx hb dX13_remember_23 rfl (lv_at hl 1 rfl) ?_
  refine pq_get (own := RX13) (ci := 13) (C := RX13) (T := TX13) (N := 229) (k := 2) (v := .int 0) hx hb hpp pi13 rfl hown hG hW 0 rfl E_m0 2 rfl (by decide) pp75 dX13_remember_24 ?_
  refine pq_iast hx hb hG hW 1 rfl (vp_in_iff.mpr ⟨by decide, by decide⟩) dX13_remember_27 (fun H locs hW => ?_)
  have hW : pq_W D _ s.heap L f _ [(m0, .inr (13, F_m0)), (w59, .inl (cy 1, 80, .inl _)), (w13, .inl (cy 1, 8, .inl (fun _ => 0))), (w14, .inl (cy 1, 8, .inl (fun _ => 0))), (w15, .inl (cy 1, 8, .inl (fun _ => 0))), (w16, .inl (cy 1, 8, .inl (fun _ => 0))), (w17, .inl (cy 1, 8, .inl (fun _ => 0))), (w18, .inl (cy 1, 8, .inl (fun _ => 0))), (w19, .inl (cy 1, 8, .inl (fun _ => 0)))] H locs := hW
  refine lv_aload_n hx hb dX13_remember_28 rfl (lv_at hl 1 rfl) ?_
  refine pq_get (own := RX13) (ci := 13) (C := RX13) (T := TX13) (N := 229) (k := 97) (v := .ref w59) hx hb hpp pi13 rfl hown hG hW 0 rfl E_m0 29 rfl (by decide) pp73 dX13_remember_29 ?_
  refine lv_iload_n hx hb dX13_remember_32 rfl (lv_at hl 0 rfl) ?_
  refine lv_iinc (v := 3) (lv' := [(1, .int 3), (0, .ref m0)]) hx hb dX13_remember_33 hl (k := 0) rfl (by decide) (by decide) rfl (fun ls hl => ?_)
  refine lv_aload_n hx hb dX13_remember_36 rfl (lv_at hl 1 rfl) ?_
  refine pq_get (own := RX13) (ci := 13) (C := RX13) (T := TX13) (N := 229) (k := 3) (v := .int 0) hx hb hpp pi13 rfl hown hG hW 0 rfl E_m0 3 rfl (by decide) pp76 dX13_remember_37 ?_
  refine pq_iast hx hb hG hW 1 rfl (vp_in_iff.mpr ⟨by decide, by decide⟩) dX13_remember_40 (fun H locs hW => ?_)
  have hW : pq_W D _ s.heap L f _ [(m0, .inr (13, F_m0)), (w59, .inl (cy 1, 80, .inl _)), (w13, .inl (cy 1, 8, .inl (fun _ => 0))), (w14, .inl (cy 1, 8, .inl (fun _ => 0))), (w15, .inl (cy 1, 8, .inl (fun _ => 0))), (w16, .inl (cy 1, 8, .inl (fun _ => 0))), (w17, .inl (cy 1, 8, .inl (fun _ => 0))), (w18, .inl (cy 1, 8, .inl (fun _ => 0))), (w19, .inl (cy 1, 8, .inl (fun _ => 0)))] H locs := hW
  refine lv_aload_n hx hb dX13_remember_41 rfl (lv_at hl 1 rfl) ?_
  refine pq_get (own := RX13) (ci := 13) (C := RX13) (T := TX13) (N := 229) (k := 97) (v := .ref w59) hx hb hpp pi13 rfl hown hG hW 0 rfl E_m0 29 rfl (by decide) pp73 dX13_remember_42 ?_
  refine lv_iload_n hx hb dX13_remember_45 rfl (lv_at hl 0 rfl) ?_
  refine lv_iinc (v := 4) (lv' := [(1, .int 4), (0, .ref m0)]) hx hb dX13_remember_46 hl (k := 0) rfl (by decide) (by decide) rfl (fun ls hl => ?_)
  refine lv_aload_n hx hb dX13_remember_49 rfl (lv_at hl 1 rfl) ?_
  refine pq_get (own := RX13) (ci := 13) (C := RX13) (T := TX13) (N := 229) (k := 4) (v := .int 0) hx hb hpp pi13 rfl hown hG hW 0 rfl E_m0 4 rfl (by decide) pp77 dX13_remember_50 ?_
  refine pq_iast hx hb hG hW 1 rfl (vp_in_iff.mpr ⟨by decide, by decide⟩) dX13_remember_53 (fun H locs hW => ?_)
  have hW : pq_W D _ s.heap L f _ [(m0, .inr (13, F_m0)), (w59, .inl (cy 1, 80, .inl _)), (w13, .inl (cy 1, 8, .inl (fun _ => 0))), (w14, .inl (cy 1, 8, .inl (fun _ => 0))), (w15, .inl (cy 1, 8, .inl (fun _ => 0))), (w16, .inl (cy 1, 8, .inl (fun _ => 0))), (w17, .inl (cy 1, 8, .inl (fun _ => 0))), (w18, .inl (cy 1, 8, .inl (fun _ => 0))), (w19, .inl (cy 1, 8, .inl (fun _ => 0)))] H locs := hW
  refine lv_aload_n hx hb dX13_remember_54 rfl (lv_at hl 1 rfl) ?_
  refine pq_get (own := RX13) (ci := 13) (C := RX13) (T := TX13) (N := 229) (k := 97) (v := .ref w59) hx hb hpp pi13 rfl hown hG hW 0 rfl E_m0 29 rfl (by decide) pp73 dX13_remember_55 ?_
  refine lv_iload_n hx hb dX13_remember_58 rfl (lv_at hl 0 rfl) ?_
  refine lv_iinc (v := 5) (lv' := [(1, .int 5), (0, .ref m0)]) hx hb dX13_remember_59 hl (k := 0) rfl (by decide) (by decide) rfl (fun ls hl => ?_)
  refine lv_aload_n hx hb dX13_remember_62 rfl (lv_at hl 1 rfl) ?_
  refine pq_get (own := RX13) (ci := 13) (C := RX13) (T := TX13) (N := 229) (k := 5) (v := .int 0) hx hb hpp pi13 rfl hown hG hW 0 rfl E_m0 5 rfl (by decide) pp78 dX13_remember_63 ?_
  refine pq_iast hx hb hG hW 1 rfl (vp_in_iff.mpr ⟨by decide, by decide⟩) dX13_remember_66 (fun H locs hW => ?_)
  have hW : pq_W D _ s.heap L f _ [(m0, .inr (13, F_m0)), (w59, .inl (cy 1, 80, .inl _)), (w13, .inl (cy 1, 8, .inl (fun _ => 0))), (w14, .inl (cy 1, 8, .inl (fun _ => 0))), (w15, .inl (cy 1, 8, .inl (fun _ => 0))), (w16, .inl (cy 1, 8, .inl (fun _ => 0))), (w17, .inl (cy 1, 8, .inl (fun _ => 0))), (w18, .inl (cy 1, 8, .inl (fun _ => 0))), (w19, .inl (cy 1, 8, .inl (fun _ => 0)))] H locs := hW
  refine lv_aload_n hx hb dX13_remember_67 rfl (lv_at hl 1 rfl) ?_
  refine pq_get (own := RX13) (ci := 13) (C := RX13) (T := TX13) (N := 229) (k := 97) (v := .ref w59) hx hb hpp pi13 rfl hown hG hW 0 rfl E_m0 29 rfl (by decide) pp73 dX13_remember_68 ?_
  refine lv_iload_n hx hb dX13_remember_71 rfl (lv_at hl 0 rfl) ?_
  refine lv_iinc (v := 6) (lv' := [(1, .int 6), (0, .ref m0)]) hx hb dX13_remember_72 hl (k := 0) rfl (by decide) (by decide) rfl (fun ls hl => ?_)
  refine lv_aload_n hx hb dX13_remember_75 rfl (lv_at hl 1 rfl) ?_
  refine pq_get (own := RX13) (ci := 13) (C := RX13) (T := TX13) (N := 229) (k := 6) (v := .int (-1)) hx hb hpp pi13 rfl hown hG hW 0 rfl E_m0 6 rfl (by decide) pp79 dX13_remember_76 ?_
  refine pq_iast hx hb hG hW 1 rfl (vp_in_iff.mpr ⟨by decide, by decide⟩) dX13_remember_79 (fun H locs hW => ?_)
  have hW : pq_W D _ s.heap L f _ [(m0, .inr (13, F_m0)), (w59, .inl (cy 1, 80, .inl _)), (w13, .inl (cy 1, 8, .inl (fun _ => 0))), (w14, .inl (cy 1, 8, .inl (fun _ => 0))), (w15, .inl (cy 1, 8, .inl (fun _ => 0))), (w16, .inl (cy 1, 8, .inl (fun _ => 0))), (w17, .inl (cy 1, 8, .inl (fun _ => 0))), (w18, .inl (cy 1, 8, .inl (fun _ => 0))), (w19, .inl (cy 1, 8, .inl (fun _ => 0)))] H locs := hW
  refine lv_aload_n hx hb dX13_remember_80 rfl (lv_at hl 1 rfl) ?_
  refine pq_get (own := RX13) (ci := 13) (C := RX13) (T := TX13) (N := 229) (k := 97) (v := .ref w59) hx hb hpp pi13 rfl hown hG hW 0 rfl E_m0 29 rfl (by decide) pp73 dX13_remember_81 ?_
  refine lv_iload_n hx hb dX13_remember_84 rfl (lv_at hl 0 rfl) ?_
  refine lv_iinc (v := 7) (lv' := [(1, .int 7), (0, .ref m0)]) hx hb dX13_remember_85 hl (k := 0) rfl (by decide) (by decide) rfl (fun ls hl => ?_)
  refine lv_aload_n hx hb dX13_remember_88 rfl (lv_at hl 1 rfl) ?_
  refine pq_get (own := RX13) (ci := 13) (C := RX13) (T := TX13) (N := 229) (k := 42) (v := .int 0) hx hb hpp pi13 rfl hown hG hW 0 rfl E_m0 15 rfl (by decide) pp80 dX13_remember_89 ?_
  refine pq_iast hx hb hG hW 1 rfl (vp_in_iff.mpr ⟨by decide, by decide⟩) dX13_remember_92 (fun H locs hW => ?_)
  have hW : pq_W D _ s.heap L f _ [(m0, .inr (13, F_m0)), (w59, .inl (cy 1, 80, .inl _)), (w13, .inl (cy 1, 8, .inl (fun _ => 0))), (w14, .inl (cy 1, 8, .inl (fun _ => 0))), (w15, .inl (cy 1, 8, .inl (fun _ => 0))), (w16, .inl (cy 1, 8, .inl (fun _ => 0))), (w17, .inl (cy 1, 8, .inl (fun _ => 0))), (w18, .inl (cy 1, 8, .inl (fun _ => 0))), (w19, .inl (cy 1, 8, .inl (fun _ => 0)))] H locs := hW
  refine lv_aload_n hx hb dX13_remember_93 rfl (lv_at hl 1 rfl) ?_
  refine pq_get (own := RX13) (ci := 13) (C := RX13) (T := TX13) (N := 229) (k := 97) (v := .ref w59) hx hb hpp pi13 rfl hown hG hW 0 rfl E_m0 29 rfl (by decide) pp73 dX13_remember_94 ?_
  refine lv_iload_n hx hb dX13_remember_97 rfl (lv_at hl 0 rfl) ?_
  refine lv_iinc (v := 8) (lv' := [(1, .int 8), (0, .ref m0)]) hx hb dX13_remember_98 hl (k := 0) rfl (by decide) (by decide) rfl (fun ls hl => ?_)
  refine lv_aload_n hx hb dX13_remember_101 rfl (lv_at hl 1 rfl) ?_
  refine pq_get (own := RX13) (ci := 13) (C := RX13) (T := TX13) (N := 229) (k := 59) (v := .int 0) hx hb hpp pi13 rfl hown hG hW 0 rfl E_m0 16 rfl (by decide) pp81 dX13_remember_102 ?_
  refine pq_iast hx hb hG hW 1 rfl (vp_in_iff.mpr ⟨by decide, by decide⟩) dX13_remember_105 (fun H locs hW => ?_)
  have hW : pq_W D _ s.heap L f _ [(m0, .inr (13, F_m0)), (w59, .inl (cy 1, 80, .inl _)), (w13, .inl (cy 1, 8, .inl (fun _ => 0))), (w14, .inl (cy 1, 8, .inl (fun _ => 0))), (w15, .inl (cy 1, 8, .inl (fun _ => 0))), (w16, .inl (cy 1, 8, .inl (fun _ => 0))), (w17, .inl (cy 1, 8, .inl (fun _ => 0))), (w18, .inl (cy 1, 8, .inl (fun _ => 0))), (w19, .inl (cy 1, 8, .inl (fun _ => 0)))] H locs := hW
  refine lv_aload_n hx hb dX13_remember_106 rfl (lv_at hl 1 rfl) ?_
  refine pq_get (own := RX13) (ci := 13) (C := RX13) (T := TX13) (N := 229) (k := 97) (v := .ref w59) hx hb hpp pi13 rfl hown hG hW 0 rfl E_m0 29 rfl (by decide) pp73 dX13_remember_107 ?_
  refine lv_iload_n hx hb dX13_remember_110 rfl (lv_at hl 0 rfl) ?_
  refine lv_iinc (v := 9) (lv' := [(1, .int 9), (0, .ref m0)]) hx hb dX13_remember_111 hl (k := 0) rfl (by decide) (by decide) rfl (fun ls hl => ?_)
  refine lv_aload_n hx hb dX13_remember_114 rfl (lv_at hl 1 rfl) ?_
  refine pq_get (own := RX13) (ci := 13) (C := RX13) (T := TX13) (N := 229) (k := 64) (v := .int 0) hx hb hpp pi13 rfl hown hG hW 0 rfl E_m0 17 rfl (by decide) pp82 dX13_remember_115 ?_
  refine pq_iast hx hb hG hW 1 rfl (vp_in_iff.mpr ⟨by decide, by decide⟩) dX13_remember_118 (fun H locs hW => ?_)
  have hW : pq_W D _ s.heap L f _ [(m0, .inr (13, F_m0)), (w59, .inl (cy 1, 80, .inl _)), (w13, .inl (cy 1, 8, .inl (fun _ => 0))), (w14, .inl (cy 1, 8, .inl (fun _ => 0))), (w15, .inl (cy 1, 8, .inl (fun _ => 0))), (w16, .inl (cy 1, 8, .inl (fun _ => 0))), (w17, .inl (cy 1, 8, .inl (fun _ => 0))), (w18, .inl (cy 1, 8, .inl (fun _ => 0))), (w19, .inl (cy 1, 8, .inl (fun _ => 0)))] H locs := hW
  refine lv_iconst (v := 0) hx hb dX13_remember_119 (by decide) ?_
  refine lv_istore_n (lv' := [(2, .int 0), (1, .int 9), (0, .ref m0)]) hx hb dX13_remember_120 rfl hl (by decide) rfl (fun ls hl => ?_)
  refine lv_iload_n hx hb dX13_remember_121 rfl (lv_at hl 0 rfl) ?_
  refine lv_bipush (v := 8) hx hb dX13_remember_122 (by decide) ?_
  refine lv_icmp_ge (tgt := 238) hx hb dX13_remember_124 (by decide) (fun c9 => absurd c9 (by decide)) (fun _ => ?_)
  refine lv_aload_n hx hb dX13_remember_127 rfl (lv_at hl 2 rfl) ?_
  refine pq_get (own := RX13) (ci := 13) (C := RX13) (T := TX13) (N := 229) (k := 97) (v := .ref w59) hx hb hpp pi13 rfl hown hG hW 0 rfl E_m0 29 rfl (by decide) pp73 dX13_remember_128 ?_
  refine lv_iload_n hx hb dX13_remember_131 rfl (lv_at hl 1 rfl) ?_
  refine lv_iinc (v := 10) (lv' := [(1, .int 10), (2, .int 0), (0, .ref m0)]) hx hb dX13_remember_132 hl (k := 1) rfl (by decide) (by decide) rfl (fun ls hl => ?_)
  refine lv_aload_n hx hb dX13_remember_135 rfl (lv_at hl 2 rfl) ?_
  refine pq_get (own := RX13) (ci := 13) (C := RX13) (T := TX13) (N := 229) (k := 19) (v := .ref w13) hx hb hpp pi13 rfl hown hG hW 0 rfl E_m0 8 rfl (by decide) pp83 dX13_remember_136 ?_
  refine lv_iload_n hx hb dX13_remember_139 rfl (lv_at hl 1 rfl) ?_
  refine pq_iald (v := 0) hx hb hG hW 2 rfl (vp_in_iff.mpr ⟨by decide, by decide⟩) rfl dX13_remember_140 ?_
  refine pq_iast hx hb hG hW 1 rfl (vp_in_iff.mpr ⟨by decide, by decide⟩) dX13_remember_141 (fun H locs hW => ?_)
  have hW : pq_W D _ s.heap L f _ [(m0, .inr (13, F_m0)), (w59, .inl (cy 1, 80, .inl _)), (w13, .inl (cy 1, 8, .inl (fun _ => 0))), (w14, .inl (cy 1, 8, .inl (fun _ => 0))), (w15, .inl (cy 1, 8, .inl (fun _ => 0))), (w16, .inl (cy 1, 8, .inl (fun _ => 0))), (w17, .inl (cy 1, 8, .inl (fun _ => 0))), (w18, .inl (cy 1, 8, .inl (fun _ => 0))), (w19, .inl (cy 1, 8, .inl (fun _ => 0)))] H locs := hW
  refine lv_aload_n hx hb dX13_remember_142 rfl (lv_at hl 2 rfl) ?_
  refine pq_get (own := RX13) (ci := 13) (C := RX13) (T := TX13) (N := 229) (k := 97) (v := .ref w59) hx hb hpp pi13 rfl hown hG hW 0 rfl E_m0 29 rfl (by decide) pp73 dX13_remember_143 ?_
  refine lv_iload_n hx hb dX13_remember_146 rfl (lv_at hl 0 rfl) ?_
  refine lv_iinc (v := 11) (lv' := [(1, .int 11), (2, .int 0), (0, .ref m0)]) hx hb dX13_remember_147 hl (k := 0) rfl (by decide) (by decide) rfl (fun ls hl => ?_)
  refine lv_aload_n hx hb dX13_remember_150 rfl (lv_at hl 2 rfl) ?_
  refine pq_get (own := RX13) (ci := 13) (C := RX13) (T := TX13) (N := 229) (k := 20) (v := .ref w14) hx hb hpp pi13 rfl hown hG hW 0 rfl E_m0 9 rfl (by decide) pp84 dX13_remember_151 ?_
  refine lv_iload_n hx hb dX13_remember_154 rfl (lv_at hl 1 rfl) ?_
  refine pq_iald (v := 0) hx hb hG hW 3 rfl (vp_in_iff.mpr ⟨by decide, by decide⟩) rfl dX13_remember_155 ?_
  refine pq_iast hx hb hG hW 1 rfl (vp_in_iff.mpr ⟨by decide, by decide⟩) dX13_remember_156 (fun H locs hW => ?_)
  have hW : pq_W D _ s.heap L f _ [(m0, .inr (13, F_m0)), (w59, .inl (cy 1, 80, .inl _)), (w13, .inl (cy 1, 8, .inl (fun _ => 0))), (w14, .inl (cy 1, 8, .inl (fun _ => 0))), (w15, .inl (cy 1, 8, .inl (fun _ => 0))), (w16, .inl (cy 1, 8, .inl (fun _ => 0))), (w17, .inl (cy 1, 8, .inl (fun _ => 0))), (w18, .inl (cy 1, 8, .inl (fun _ => 0))), (w19, .inl (cy 1, 8, .inl (fun _ => 0)))] H locs := hW
  refine lv_aload_n hx hb dX13_remember_157 rfl (lv_at hl 2 rfl) ?_
  refine pq_get (own := RX13) (ci := 13) (C := RX13) (T := TX13) (N := 229) (k := 97) (v := .ref w59) hx hb hpp pi13 rfl hown hG hW 0 rfl E_m0 29 rfl (by decide) pp73 dX13_remember_158 ?_
  refine lv_iload_n hx hb dX13_remember_161 rfl (lv_at hl 0 rfl) ?_
  refine lv_iinc (v := 12) (lv' := [(1, .int 12), (2, .int 0), (0, .ref m0)]) hx hb dX13_remember_162 hl (k := 0) rfl (by decide) (by decide) rfl (fun ls hl => ?_)
  refine lv_aload_n hx hb dX13_remember_165 rfl (lv_at hl 2 rfl) ?_
  refine pq_get (own := RX13) (ci := 13) (C := RX13) (T := TX13) (N := 229) (k := 21) (v := .ref w15) hx hb hpp pi13 rfl hown hG hW 0 rfl E_m0 10 rfl (by decide) pp85 dX13_remember_166 ?_
  refine lv_iload_n hx hb dX13_remember_169 rfl (lv_at hl 1 rfl) ?_
  refine pq_iald (v := 0) hx hb hG hW 4 rfl (vp_in_iff.mpr ⟨by decide, by decide⟩) rfl dX13_remember_170 ?_
  refine pq_iast hx hb hG hW 1 rfl (vp_in_iff.mpr ⟨by decide, by decide⟩) dX13_remember_171 (fun H locs hW => ?_)
  have hW : pq_W D _ s.heap L f _ [(m0, .inr (13, F_m0)), (w59, .inl (cy 1, 80, .inl _)), (w13, .inl (cy 1, 8, .inl (fun _ => 0))), (w14, .inl (cy 1, 8, .inl (fun _ => 0))), (w15, .inl (cy 1, 8, .inl (fun _ => 0))), (w16, .inl (cy 1, 8, .inl (fun _ => 0))), (w17, .inl (cy 1, 8, .inl (fun _ => 0))), (w18, .inl (cy 1, 8, .inl (fun _ => 0))), (w19, .inl (cy 1, 8, .inl (fun _ => 0)))] H locs := hW
  refine lv_aload_n hx hb dX13_remember_172 rfl (lv_at hl 2 rfl) ?_
  refine pq_get (own := RX13) (ci := 13) (C := RX13) (T := TX13) (N := 229) (k := 97) (v := .ref w59) hx hb hpp pi13 rfl hown hG hW 0 rfl E_m0 29 rfl (by decide) pp73 dX13_remember_173 ?_
  refine lv_iload_n hx hb dX13_remember_176 rfl (lv_at hl 0 rfl) ?_
  refine lv_iinc (v := 13) (lv' := [(1, .int 13), (2, .int 0), (0, .ref m0)]) hx hb dX13_remember_177 hl (k := 0) rfl (by decide) (by decide) rfl (fun ls hl => ?_)
  refine lv_aload_n hx hb dX13_remember_180 rfl (lv_at hl 2 rfl) ?_
  refine pq_get (own := RX13) (ci := 13) (C := RX13) (T := TX13) (N := 229) (k := 22) (v := .ref w16) hx hb hpp pi13 rfl hown hG hW 0 rfl E_m0 11 rfl (by decide) pp86 dX13_remember_181 ?_
  refine lv_iload_n hx hb dX13_remember_184 rfl (lv_at hl 1 rfl) ?_
  refine pq_iald (v := 0) hx hb hG hW 5 rfl (vp_in_iff.mpr ⟨by decide, by decide⟩) rfl dX13_remember_185 ?_
  refine pq_iast hx hb hG hW 1 rfl (vp_in_iff.mpr ⟨by decide, by decide⟩) dX13_remember_186 (fun H locs hW => ?_)
  have hW : pq_W D _ s.heap L f _ [(m0, .inr (13, F_m0)), (w59, .inl (cy 1, 80, .inl _)), (w13, .inl (cy 1, 8, .inl (fun _ => 0))), (w14, .inl (cy 1, 8, .inl (fun _ => 0))), (w15, .inl (cy 1, 8, .inl (fun _ => 0))), (w16, .inl (cy 1, 8, .inl (fun _ => 0))), (w17, .inl (cy 1, 8, .inl (fun _ => 0))), (w18, .inl (cy 1, 8, .inl (fun _ => 0))), (w19, .inl (cy 1, 8, .inl (fun _ => 0)))] H locs := hW
  refine lv_aload_n hx hb dX13_remember_187 rfl (lv_at hl 2 rfl) ?_
  refine pq_get (own := RX13) (ci := 13) (C := RX13) (T := TX13) (N := 229) (k := 97) (v := .ref w59) hx hb hpp pi13 rfl hown hG hW 0 rfl E_m0 29 rfl (by decide) pp73 dX13_remember_188 ?_
  refine lv_iload_n hx hb dX13_remember_191 rfl (lv_at hl 0 rfl) ?_
  refine lv_iinc (v := 14) (lv' := [(1, .int 14), (2, .int 0), (0, .ref m0)]) hx hb dX13_remember_192 hl (k := 0) rfl (by decide) (by decide) rfl (fun ls hl => ?_)
  refine lv_aload_n hx hb dX13_remember_195 rfl (lv_at hl 2 rfl) ?_
  refine pq_get (own := RX13) (ci := 13) (C := RX13) (T := TX13) (N := 229) (k := 23) (v := .ref w17) hx hb hpp pi13 rfl hown hG hW 0 rfl E_m0 12 rfl (by decide) pp87 dX13_remember_196 ?_
  refine lv_iload_n hx hb dX13_remember_199 rfl (lv_at hl 1 rfl) ?_
  refine pq_iald (v := 0) hx hb hG hW 6 rfl (vp_in_iff.mpr ⟨by decide, by decide⟩) rfl dX13_remember_200 ?_
  refine pq_iast hx hb hG hW 1 rfl (vp_in_iff.mpr ⟨by decide, by decide⟩) dX13_remember_201 (fun H locs hW => ?_)
  have hW : pq_W D _ s.heap L f _ [(m0, .inr (13, F_m0)), (w59, .inl (cy 1, 80, .inl _)), (w13, .inl (cy 1, 8, .inl (fun _ => 0))), (w14, .inl (cy 1, 8, .inl (fun _ => 0))), (w15, .inl (cy 1, 8, .inl (fun _ => 0))), (w16, .inl (cy 1, 8, .inl (fun _ => 0))), (w17, .inl (cy 1, 8, .inl (fun _ => 0))), (w18, .inl (cy 1, 8, .inl (fun _ => 0))), (w19, .inl (cy 1, 8, .inl (fun _ => 0)))] H locs := hW
  refine lv_aload_n hx hb dX13_remember_202 rfl (lv_at hl 2 rfl) ?_
  refine pq_get (own := RX13) (ci := 13) (C := RX13) (T := TX13) (N := 229) (k := 97) (v := .ref w59) hx hb hpp pi13 rfl hown hG hW 0 rfl E_m0 29 rfl (by decide) pp73 dX13_remember_203 ?_
  refine lv_iload_n hx hb dX13_remember_206 rfl (lv_at hl 0 rfl) ?_
  refine lv_iinc (v := 15) (lv' := [(1, .int 15), (2, .int 0), (0, .ref m0)]) hx hb dX13_remember_207 hl (k := 0) rfl (by decide) (by decide) rfl (fun ls hl => ?_)
  refine lv_aload_n hx hb dX13_remember_210 rfl (lv_at hl 2 rfl) ?_
  refine pq_get (own := RX13) (ci := 13) (C := RX13) (T := TX13) (N := 229) (k := 24) (v := .ref w18) hx hb hpp pi13 rfl hown hG hW 0 rfl E_m0 13 rfl (by decide) pp88 dX13_remember_211 ?_
  refine lv_iload_n hx hb dX13_remember_214 rfl (lv_at hl 1 rfl) ?_
  refine pq_iald (v := 0) hx hb hG hW 7 rfl (vp_in_iff.mpr ⟨by decide, by decide⟩) rfl dX13_remember_215 ?_
  refine pq_iast hx hb hG hW 1 rfl (vp_in_iff.mpr ⟨by decide, by decide⟩) dX13_remember_216 (fun H locs hW => ?_)
  have hW : pq_W D _ s.heap L f _ [(m0, .inr (13, F_m0)), (w59, .inl (cy 1, 80, .inl _)), (w13, .inl (cy 1, 8, .inl (fun _ => 0))), (w14, .inl (cy 1, 8, .inl (fun _ => 0))), (w15, .inl (cy 1, 8, .inl (fun _ => 0))), (w16, .inl (cy 1, 8, .inl (fun _ => 0))), (w17, .inl (cy 1, 8, .inl (fun _ => 0))), (w18, .inl (cy 1, 8, .inl (fun _ => 0))), (w19, .inl (cy 1, 8, .inl (fun _ => 0)))] H locs := hW
  refine lv_aload_n hx hb dX13_remember_217 rfl (lv_at hl 2 rfl) ?_
  refine pq_get (own := RX13) (ci := 13) (C := RX13) (T := TX13) (N := 229) (k := 97) (v := .ref w59) hx hb hpp pi13 rfl hown hG hW 0 rfl E_m0 29 rfl (by decide) pp73 dX13_remember_218 ?_
  refine lv_iload_n hx hb dX13_remember_221 rfl (lv_at hl 0 rfl) ?_
  refine lv_iinc (v := 16) (lv' := [(1, .int 16), (2, .int 0), (0, .ref m0)]) hx hb dX13_remember_222 hl (k := 0) rfl (by decide) (by decide) rfl (fun ls hl => ?_)
  refine lv_aload_n hx hb dX13_remember_225 rfl (lv_at hl 2 rfl) ?_
  refine pq_get (own := RX13) (ci := 13) (C := RX13) (T := TX13) (N := 229) (k := 25) (v := .ref w19) hx hb hpp pi13 rfl hown hG hW 0 rfl E_m0 14 rfl (by decide) pp89 dX13_remember_226 ?_
  refine lv_iload_n hx hb dX13_remember_229 rfl (lv_at hl 1 rfl) ?_
  refine pq_iald (v := 0) hx hb hG hW 8 rfl (vp_in_iff.mpr ⟨by decide, by decide⟩) rfl dX13_remember_230 ?_
  refine pq_iast hx hb hG hW 1 rfl (vp_in_iff.mpr ⟨by decide, by decide⟩) dX13_remember_231 (fun H locs hW => ?_)
  have hW : pq_W D _ s.heap L f _ [(m0, .inr (13, F_m0)), (w59, .inl (cy 1, 80, .inl _)), (w13, .inl (cy 1, 8, .inl (fun _ => 0))), (w14, .inl (cy 1, 8, .inl (fun _ => 0))), (w15, .inl (cy 1, 8, .inl (fun _ => 0))), (w16, .inl (cy 1, 8, .inl (fun _ => 0))), (w17, .inl (cy 1, 8, .inl (fun _ => 0))), (w18, .inl (cy 1, 8, .inl (fun _ => 0))), (w19, .inl (cy 1, 8, .inl (fun _ => 0)))] H locs := hW
  refine lv_iinc (v := 1) (lv' := [(2, .int 1), (1, .int 16), (0, .ref m0)]) hx hb dX13_remember_232 hl (k := 1) rfl (by decide) (by decide) rfl (fun ls hl => ?_)
  refine lv_goto (tgt := 121) hx hb dX13_remember_235 (by decide) ?_
  refine lv_iload_n hx hb dX13_remember_121 rfl (lv_at hl 0 rfl) ?_
  refine lv_bipush (v := 8) hx hb dX13_remember_122 (by decide) ?_
  refine lv_icmp_ge (tgt := 238) hx hb dX13_remember_124 (by decide) (fun c9 => absurd c9 (by decide)) (fun _ => ?_)
  refine lv_aload_n hx hb dX13_remember_127 rfl (lv_at hl 2 rfl) ?_
  refine pq_get (own := RX13) (ci := 13) (C := RX13) (T := TX13) (N := 229) (k := 97) (v := .ref w59) hx hb hpp pi13 rfl hown hG hW 0 rfl E_m0 29 rfl (by decide) pp73 dX13_remember_128 ?_
  refine lv_iload_n hx hb dX13_remember_131 rfl (lv_at hl 1 rfl) ?_
  refine lv_iinc (v := 17) (lv' := [(1, .int 17), (2, .int 1), (0, .ref m0)]) hx hb dX13_remember_132 hl (k := 1) rfl (by decide) (by decide) rfl (fun ls hl => ?_)
  refine lv_aload_n hx hb dX13_remember_135 rfl (lv_at hl 2 rfl) ?_
  refine pq_get (own := RX13) (ci := 13) (C := RX13) (T := TX13) (N := 229) (k := 19) (v := .ref w13) hx hb hpp pi13 rfl hown hG hW 0 rfl E_m0 8 rfl (by decide) pp83 dX13_remember_136 ?_
  refine lv_iload_n hx hb dX13_remember_139 rfl (lv_at hl 1 rfl) ?_
  refine pq_iald (v := 0) hx hb hG hW 2 rfl (vp_in_iff.mpr ⟨by decide, by decide⟩) rfl dX13_remember_140 ?_
  refine pq_iast hx hb hG hW 1 rfl (vp_in_iff.mpr ⟨by decide, by decide⟩) dX13_remember_141 (fun H locs hW => ?_)
  have hW : pq_W D _ s.heap L f _ [(m0, .inr (13, F_m0)), (w59, .inl (cy 1, 80, .inl _)), (w13, .inl (cy 1, 8, .inl (fun _ => 0))), (w14, .inl (cy 1, 8, .inl (fun _ => 0))), (w15, .inl (cy 1, 8, .inl (fun _ => 0))), (w16, .inl (cy 1, 8, .inl (fun _ => 0))), (w17, .inl (cy 1, 8, .inl (fun _ => 0))), (w18, .inl (cy 1, 8, .inl (fun _ => 0))), (w19, .inl (cy 1, 8, .inl (fun _ => 0)))] H locs := hW
  refine lv_aload_n hx hb dX13_remember_142 rfl (lv_at hl 2 rfl) ?_
  refine pq_get (own := RX13) (ci := 13) (C := RX13) (T := TX13) (N := 229) (k := 97) (v := .ref w59) hx hb hpp pi13 rfl hown hG hW 0 rfl E_m0 29 rfl (by decide) pp73 dX13_remember_143 ?_
  refine lv_iload_n hx hb dX13_remember_146 rfl (lv_at hl 0 rfl) ?_
  refine lv_iinc (v := 18) (lv' := [(1, .int 18), (2, .int 1), (0, .ref m0)]) hx hb dX13_remember_147 hl (k := 0) rfl (by decide) (by decide) rfl (fun ls hl => ?_)
  refine lv_aload_n hx hb dX13_remember_150 rfl (lv_at hl 2 rfl) ?_
  refine pq_get (own := RX13) (ci := 13) (C := RX13) (T := TX13) (N := 229) (k := 20) (v := .ref w14) hx hb hpp pi13 rfl hown hG hW 0 rfl E_m0 9 rfl (by decide) pp84 dX13_remember_151 ?_
  refine lv_iload_n hx hb dX13_remember_154 rfl (lv_at hl 1 rfl) ?_
  refine pq_iald (v := 0) hx hb hG hW 3 rfl (vp_in_iff.mpr ⟨by decide, by decide⟩) rfl dX13_remember_155 ?_
  refine pq_iast hx hb hG hW 1 rfl (vp_in_iff.mpr ⟨by decide, by decide⟩) dX13_remember_156 (fun H locs hW => ?_)
  have hW : pq_W D _ s.heap L f _ [(m0, .inr (13, F_m0)), (w59, .inl (cy 1, 80, .inl _)), (w13, .inl (cy 1, 8, .inl (fun _ => 0))), (w14, .inl (cy 1, 8, .inl (fun _ => 0))), (w15, .inl (cy 1, 8, .inl (fun _ => 0))), (w16, .inl (cy 1, 8, .inl (fun _ => 0))), (w17, .inl (cy 1, 8, .inl (fun _ => 0))), (w18, .inl (cy 1, 8, .inl (fun _ => 0))), (w19, .inl (cy 1, 8, .inl (fun _ => 0)))] H locs := hW
  refine lv_aload_n hx hb dX13_remember_157 rfl (lv_at hl 2 rfl) ?_
  refine pq_get (own := RX13) (ci := 13) (C := RX13) (T := TX13) (N := 229) (k := 97) (v := .ref w59) hx hb hpp pi13 rfl hown hG hW 0 rfl E_m0 29 rfl (by decide) pp73 dX13_remember_158 ?_
  refine lv_iload_n hx hb dX13_remember_161 rfl (lv_at hl 0 rfl) ?_
  refine lv_iinc (v := 19) (lv' := [(1, .int 19), (2, .int 1), (0, .ref m0)]) hx hb dX13_remember_162 hl (k := 0) rfl (by decide) (by decide) rfl (fun ls hl => ?_)
  refine lv_aload_n hx hb dX13_remember_165 rfl (lv_at hl 2 rfl) ?_
  refine pq_get (own := RX13) (ci := 13) (C := RX13) (T := TX13) (N := 229) (k := 21) (v := .ref w15) hx hb hpp pi13 rfl hown hG hW 0 rfl E_m0 10 rfl (by decide) pp85 dX13_remember_166 ?_
  refine lv_iload_n hx hb dX13_remember_169 rfl (lv_at hl 1 rfl) ?_
  refine pq_iald (v := 0) hx hb hG hW 4 rfl (vp_in_iff.mpr ⟨by decide, by decide⟩) rfl dX13_remember_170 ?_
  refine pq_iast hx hb hG hW 1 rfl (vp_in_iff.mpr ⟨by decide, by decide⟩) dX13_remember_171 (fun H locs hW => ?_)
  have hW : pq_W D _ s.heap L f _ [(m0, .inr (13, F_m0)), (w59, .inl (cy 1, 80, .inl _)), (w13, .inl (cy 1, 8, .inl (fun _ => 0))), (w14, .inl (cy 1, 8, .inl (fun _ => 0))), (w15, .inl (cy 1, 8, .inl (fun _ => 0))), (w16, .inl (cy 1, 8, .inl (fun _ => 0))), (w17, .inl (cy 1, 8, .inl (fun _ => 0))), (w18, .inl (cy 1, 8, .inl (fun _ => 0))), (w19, .inl (cy 1, 8, .inl (fun _ => 0)))] H locs := hW
  refine lv_aload_n hx hb dX13_remember_172 rfl (lv_at hl 2 rfl) ?_
  refine pq_get (own := RX13) (ci := 13) (C := RX13) (T := TX13) (N := 229) (k := 97) (v := .ref w59) hx hb hpp pi13 rfl hown hG hW 0 rfl E_m0 29 rfl (by decide) pp73 dX13_remember_173 ?_
  refine lv_iload_n hx hb dX13_remember_176 rfl (lv_at hl 0 rfl) ?_
  refine lv_iinc (v := 20) (lv' := [(1, .int 20), (2, .int 1), (0, .ref m0)]) hx hb dX13_remember_177 hl (k := 0) rfl (by decide) (by decide) rfl (fun ls hl => ?_)
  refine lv_aload_n hx hb dX13_remember_180 rfl (lv_at hl 2 rfl) ?_
  refine pq_get (own := RX13) (ci := 13) (C := RX13) (T := TX13) (N := 229) (k := 22) (v := .ref w16) hx hb hpp pi13 rfl hown hG hW 0 rfl E_m0 11 rfl (by decide) pp86 dX13_remember_181 ?_
  refine lv_iload_n hx hb dX13_remember_184 rfl (lv_at hl 1 rfl) ?_
  refine pq_iald (v := 0) hx hb hG hW 5 rfl (vp_in_iff.mpr ⟨by decide, by decide⟩) rfl dX13_remember_185 ?_
  refine pq_iast hx hb hG hW 1 rfl (vp_in_iff.mpr ⟨by decide, by decide⟩) dX13_remember_186 (fun H locs hW => ?_)
  have hW : pq_W D _ s.heap L f _ [(m0, .inr (13, F_m0)), (w59, .inl (cy 1, 80, .inl _)), (w13, .inl (cy 1, 8, .inl (fun _ => 0))), (w14, .inl (cy 1, 8, .inl (fun _ => 0))), (w15, .inl (cy 1, 8, .inl (fun _ => 0))), (w16, .inl (cy 1, 8, .inl (fun _ => 0))), (w17, .inl (cy 1, 8, .inl (fun _ => 0))), (w18, .inl (cy 1, 8, .inl (fun _ => 0))), (w19, .inl (cy 1, 8, .inl (fun _ => 0)))] H locs := hW
  refine lv_aload_n hx hb dX13_remember_187 rfl (lv_at hl 2 rfl) ?_
  refine pq_get (own := RX13) (ci := 13) (C := RX13) (T := TX13) (N := 229) (k := 97) (v := .ref w59) hx hb hpp pi13 rfl hown hG hW 0 rfl E_m0 29 rfl (by decide) pp73 dX13_remember_188 ?_
  refine lv_iload_n hx hb dX13_remember_191 rfl (lv_at hl 0 rfl) ?_
  refine lv_iinc (v := 21) (lv' := [(1, .int 21), (2, .int 1), (0, .ref m0)]) hx hb dX13_remember_192 hl (k := 0) rfl (by decide) (by decide) rfl (fun ls hl => ?_)
  refine lv_aload_n hx hb dX13_remember_195 rfl (lv_at hl 2 rfl) ?_
  refine pq_get (own := RX13) (ci := 13) (C := RX13) (T := TX13) (N := 229) (k := 23) (v := .ref w17) hx hb hpp pi13 rfl hown hG hW 0 rfl E_m0 12 rfl (by decide) pp87 dX13_remember_196 ?_
  refine lv_iload_n hx hb dX13_remember_199 rfl (lv_at hl 1 rfl) ?_
  refine pq_iald (v := 0) hx hb hG hW 6 rfl (vp_in_iff.mpr ⟨by decide, by decide⟩) rfl dX13_remember_200 ?_
  refine pq_iast hx hb hG hW 1 rfl (vp_in_iff.mpr ⟨by decide, by decide⟩) dX13_remember_201 (fun H locs hW => ?_)
  have hW : pq_W D _ s.heap L f _ [(m0, .inr (13, F_m0)), (w59, .inl (cy 1, 80, .inl _)), (w13, .inl (cy 1, 8, .inl (fun _ => 0))), (w14, .inl (cy 1, 8, .inl (fun _ => 0))), (w15, .inl (cy 1, 8, .inl (fun _ => 0))), (w16, .inl (cy 1, 8, .inl (fun _ => 0))), (w17, .inl (cy 1, 8, .inl (fun _ => 0))), (w18, .inl (cy 1, 8, .inl (fun _ => 0))), (w19, .inl (cy 1, 8, .inl (fun _ => 0)))] H locs := hW
  refine lv_aload_n hx hb dX13_remember_202 rfl (lv_at hl 2 rfl) ?_
  refine pq_get (own := RX13) (ci := 13) (C := RX13) (T := TX13) (N := 229) (k := 97) (v := .ref w59) hx hb hpp pi13 rfl hown hG hW 0 rfl E_m0 29 rfl (by decide) pp73 dX13_remember_203 ?_
  refine lv_iload_n hx hb dX13_remember_206 rfl (lv_at hl 0 rfl) ?_
  refine lv_iinc (v := 22) (lv' := [(1, .int 22), (2, .int 1), (0, .ref m0)]) hx hb dX13_remember_207 hl (k := 0) rfl (by decide) (by decide) rfl (fun ls hl => ?_)
  refine lv_aload_n hx hb dX13_remember_210 rfl (lv_at hl 2 rfl) ?_
  refine pq_get (own := RX13) (ci := 13) (C := RX13) (T := TX13) (N := 229) (k := 24) (v := .ref w18) hx hb hpp pi13 rfl hown hG hW 0 rfl E_m0 13 rfl (by decide) pp88 dX13_remember_211 ?_
  refine lv_iload_n hx hb dX13_remember_214 rfl (lv_at hl 1 rfl) ?_
  refine pq_iald (v := 0) hx hb hG hW 7 rfl (vp_in_iff.mpr ⟨by decide, by decide⟩) rfl dX13_remember_215 ?_
  refine pq_iast hx hb hG hW 1 rfl (vp_in_iff.mpr ⟨by decide, by decide⟩) dX13_remember_216 (fun H locs hW => ?_)
  have hW : pq_W D _ s.heap L f _ [(m0, .inr (13, F_m0)), (w59, .inl (cy 1, 80, .inl _)), (w13, .inl (cy 1, 8, .inl (fun _ => 0))), (w14, .inl (cy 1, 8, .inl (fun _ => 0))), (w15, .inl (cy 1, 8, .inl (fun _ => 0))), (w16, .inl (cy 1, 8, .inl (fun _ => 0))), (w17, .inl (cy 1, 8, .inl (fun _ => 0))), (w18, .inl (cy 1, 8, .inl (fun _ => 0))), (w19, .inl (cy 1, 8, .inl (fun _ => 0)))] H locs := hW
  refine lv_aload_n hx hb dX13_remember_217 rfl (lv_at hl 2 rfl) ?_
  refine pq_get (own := RX13) (ci := 13) (C := RX13) (T := TX13) (N := 229) (k := 97) (v := .ref w59) hx hb hpp pi13 rfl hown hG hW 0 rfl E_m0 29 rfl (by decide) pp73 dX13_remember_218 ?_
  refine lv_iload_n hx hb dX13_remember_221 rfl (lv_at hl 0 rfl) ?_
  refine lv_iinc (v := 23) (lv' := [(1, .int 23), (2, .int 1), (0, .ref m0)]) hx hb dX13_remember_222 hl (k := 0) rfl (by decide) (by decide) rfl (fun ls hl => ?_)
  refine lv_aload_n hx hb dX13_remember_225 rfl (lv_at hl 2 rfl) ?_
  refine pq_get (own := RX13) (ci := 13) (C := RX13) (T := TX13) (N := 229) (k := 25) (v := .ref w19) hx hb hpp pi13 rfl hown hG hW 0 rfl E_m0 14 rfl (by decide) pp89 dX13_remember_226 ?_
  refine lv_iload_n hx hb dX13_remember_229 rfl (lv_at hl 1 rfl) ?_
  refine pq_iald (v := 0) hx hb hG hW 8 rfl (vp_in_iff.mpr ⟨by decide, by decide⟩) rfl dX13_remember_230 ?_
  refine pq_iast hx hb hG hW 1 rfl (vp_in_iff.mpr ⟨by decide, by decide⟩) dX13_remember_231 (fun H locs hW => ?_)
  have hW : pq_W D _ s.heap L f _ [(m0, .inr (13, F_m0)), (w59, .inl (cy 1, 80, .inl _)), (w13, .inl (cy 1, 8, .inl (fun _ => 0))), (w14, .inl (cy 1, 8, .inl (fun _ => 0))), (w15, .inl (cy 1, 8, .inl (fun _ => 0))), (w16, .inl (cy 1, 8, .inl (fun _ => 0))), (w17, .inl (cy 1, 8, .inl (fun _ => 0))), (w18, .inl (cy 1, 8, .inl (fun _ => 0))), (w19, .inl (cy 1, 8, .inl (fun _ => 0)))] H locs := hW
  refine lv_iinc (v := 2) (lv' := [(2, .int 2), (1, .int 23), (0, .ref m0)]) hx hb dX13_remember_232 hl (k := 1) rfl (by decide) (by decide) rfl (fun ls hl => ?_)
  refine lv_goto (tgt := 121) hx hb dX13_remember_235 (by decide) ?_
  refine lv_iload_n hx hb dX13_remember_121 rfl (lv_at hl 0 rfl) ?_
  refine lv_bipush (v := 8) hx hb dX13_remember_122 (by decide) ?_
  refine lv_icmp_ge (tgt := 238) hx hb dX13_remember_124 (by decide) (fun c9 => absurd c9 (by decide)) (fun _ => ?_)
  refine lv_aload_n hx hb dX13_remember_127 rfl (lv_at hl 2 rfl) ?_
  refine pq_get (own := RX13) (ci := 13) (C := RX13) (T := TX13) (N := 229) (k := 97) (v := .ref w59) hx hb hpp pi13 rfl hown hG hW 0 rfl E_m0 29 rfl (by decide) pp73 dX13_remember_128 ?_
  refine lv_iload_n hx hb dX13_remember_131 rfl (lv_at hl 1 rfl) ?_
  refine lv_iinc (v := 24) (lv' := [(1, .int 24), (2, .int 2), (0, .ref m0)]) hx hb dX13_remember_132 hl (k := 1) rfl (by decide) (by decide) rfl (fun ls hl => ?_)
  refine lv_aload_n hx hb dX13_remember_135 rfl (lv_at hl 2 rfl) ?_
  refine pq_get (own := RX13) (ci := 13) (C := RX13) (T := TX13) (N := 229) (k := 19) (v := .ref w13) hx hb hpp pi13 rfl hown hG hW 0 rfl E_m0 8 rfl (by decide) pp83 dX13_remember_136 ?_
  refine lv_iload_n hx hb dX13_remember_139 rfl (lv_at hl 1 rfl) ?_
  refine pq_iald (v := 0) hx hb hG hW 2 rfl (vp_in_iff.mpr ⟨by decide, by decide⟩) rfl dX13_remember_140 ?_
  refine pq_iast hx hb hG hW 1 rfl (vp_in_iff.mpr ⟨by decide, by decide⟩) dX13_remember_141 (fun H locs hW => ?_)
  have hW : pq_W D _ s.heap L f _ [(m0, .inr (13, F_m0)), (w59, .inl (cy 1, 80, .inl _)), (w13, .inl (cy 1, 8, .inl (fun _ => 0))), (w14, .inl (cy 1, 8, .inl (fun _ => 0))), (w15, .inl (cy 1, 8, .inl (fun _ => 0))), (w16, .inl (cy 1, 8, .inl (fun _ => 0))), (w17, .inl (cy 1, 8, .inl (fun _ => 0))), (w18, .inl (cy 1, 8, .inl (fun _ => 0))), (w19, .inl (cy 1, 8, .inl (fun _ => 0)))] H locs := hW
  refine lv_aload_n hx hb dX13_remember_142 rfl (lv_at hl 2 rfl) ?_
  refine pq_get (own := RX13) (ci := 13) (C := RX13) (T := TX13) (N := 229) (k := 97) (v := .ref w59) hx hb hpp pi13 rfl hown hG hW 0 rfl E_m0 29 rfl (by decide) pp73 dX13_remember_143 ?_
  refine lv_iload_n hx hb dX13_remember_146 rfl (lv_at hl 0 rfl) ?_
  refine lv_iinc (v := 25) (lv' := [(1, .int 25), (2, .int 2), (0, .ref m0)]) hx hb dX13_remember_147 hl (k := 0) rfl (by decide) (by decide) rfl (fun ls hl => ?_)
  refine lv_aload_n hx hb dX13_remember_150 rfl (lv_at hl 2 rfl) ?_
  refine pq_get (own := RX13) (ci := 13) (C := RX13) (T := TX13) (N := 229) (k := 20) (v := .ref w14) hx hb hpp pi13 rfl hown hG hW 0 rfl E_m0 9 rfl (by decide) pp84 dX13_remember_151 ?_
  refine lv_iload_n hx hb dX13_remember_154 rfl (lv_at hl 1 rfl) ?_
  refine pq_iald (v := 0) hx hb hG hW 3 rfl (vp_in_iff.mpr ⟨by decide, by decide⟩) rfl dX13_remember_155 ?_
  refine pq_iast hx hb hG hW 1 rfl (vp_in_iff.mpr ⟨by decide, by decide⟩) dX13_remember_156 (fun H locs hW => ?_)
  have hW : pq_W D _ s.heap L f _ [(m0, .inr (13, F_m0)), (w59, .inl (cy 1, 80, .inl _)), (w13, .inl (cy 1, 8, .inl (fun _ => 0))), (w14, .inl (cy 1, 8, .inl (fun _ => 0))), (w15, .inl (cy 1, 8, .inl (fun _ => 0))), (w16, .inl (cy 1, 8, .inl (fun _ => 0))), (w17, .inl (cy 1, 8, .inl (fun _ => 0))), (w18, .inl (cy 1, 8, .inl (fun _ => 0))), (w19, .inl (cy 1, 8, .inl (fun _ => 0)))] H locs := hW
  refine lv_aload_n hx hb dX13_remember_157 rfl (lv_at hl 2 rfl) ?_
  refine pq_get (own := RX13) (ci := 13) (C := RX13) (T := TX13) (N := 229) (k := 97) (v := .ref w59) hx hb hpp pi13 rfl hown hG hW 0 rfl E_m0 29 rfl (by decide) pp73 dX13_remember_158 ?_
  refine lv_iload_n hx hb dX13_remember_161 rfl (lv_at hl 0 rfl) ?_
  refine lv_iinc (v := 26) (lv' := [(1, .int 26), (2, .int 2), (0, .ref m0)]) hx hb dX13_remember_162 hl (k := 0) rfl (by decide) (by decide) rfl (fun ls hl => ?_)
  refine lv_aload_n hx hb dX13_remember_165 rfl (lv_at hl 2 rfl) ?_
  refine pq_get (own := RX13) (ci := 13) (C := RX13) (T := TX13) (N := 229) (k := 21) (v := .ref w15) hx hb hpp pi13 rfl hown hG hW 0 rfl E_m0 10 rfl (by decide) pp85 dX13_remember_166 ?_
  refine lv_iload_n hx hb dX13_remember_169 rfl (lv_at hl 1 rfl) ?_
  refine pq_iald (v := 0) hx hb hG hW 4 rfl (vp_in_iff.mpr ⟨by decide, by decide⟩) rfl dX13_remember_170 ?_
  refine pq_iast hx hb hG hW 1 rfl (vp_in_iff.mpr ⟨by decide, by decide⟩) dX13_remember_171 (fun H locs hW => ?_)
  have hW : pq_W D _ s.heap L f _ [(m0, .inr (13, F_m0)), (w59, .inl (cy 1, 80, .inl _)), (w13, .inl (cy 1, 8, .inl (fun _ => 0))), (w14, .inl (cy 1, 8, .inl (fun _ => 0))), (w15, .inl (cy 1, 8, .inl (fun _ => 0))), (w16, .inl (cy 1, 8, .inl (fun _ => 0))), (w17, .inl (cy 1, 8, .inl (fun _ => 0))), (w18, .inl (cy 1, 8, .inl (fun _ => 0))), (w19, .inl (cy 1, 8, .inl (fun _ => 0)))] H locs := hW
  refine lv_aload_n hx hb dX13_remember_172 rfl (lv_at hl 2 rfl) ?_
  refine pq_get (own := RX13) (ci := 13) (C := RX13) (T := TX13) (N := 229) (k := 97) (v := .ref w59) hx hb hpp pi13 rfl hown hG hW 0 rfl E_m0 29 rfl (by decide) pp73 dX13_remember_173 ?_
  refine lv_iload_n hx hb dX13_remember_176 rfl (lv_at hl 0 rfl) ?_
  refine lv_iinc (v := 27) (lv' := [(1, .int 27), (2, .int 2), (0, .ref m0)]) hx hb dX13_remember_177 hl (k := 0) rfl (by decide) (by decide) rfl (fun ls hl => ?_)
  refine lv_aload_n hx hb dX13_remember_180 rfl (lv_at hl 2 rfl) ?_
  refine pq_get (own := RX13) (ci := 13) (C := RX13) (T := TX13) (N := 229) (k := 22) (v := .ref w16) hx hb hpp pi13 rfl hown hG hW 0 rfl E_m0 11 rfl (by decide) pp86 dX13_remember_181 ?_
  refine lv_iload_n hx hb dX13_remember_184 rfl (lv_at hl 1 rfl) ?_
  refine pq_iald (v := 0) hx hb hG hW 5 rfl (vp_in_iff.mpr ⟨by decide, by decide⟩) rfl dX13_remember_185 ?_
  refine pq_iast hx hb hG hW 1 rfl (vp_in_iff.mpr ⟨by decide, by decide⟩) dX13_remember_186 (fun H locs hW => ?_)
  have hW : pq_W D _ s.heap L f _ [(m0, .inr (13, F_m0)), (w59, .inl (cy 1, 80, .inl _)), (w13, .inl (cy 1, 8, .inl (fun _ => 0))), (w14, .inl (cy 1, 8, .inl (fun _ => 0))), (w15, .inl (cy 1, 8, .inl (fun _ => 0))), (w16, .inl (cy 1, 8, .inl (fun _ => 0))), (w17, .inl (cy 1, 8, .inl (fun _ => 0))), (w18, .inl (cy 1, 8, .inl (fun _ => 0))), (w19, .inl (cy 1, 8, .inl (fun _ => 0)))] H locs := hW
  refine lv_aload_n hx hb dX13_remember_187 rfl (lv_at hl 2 rfl) ?_
  refine pq_get (own := RX13) (ci := 13) (C := RX13) (T := TX13) (N := 229) (k := 97) (v := .ref w59) hx hb hpp pi13 rfl hown hG hW 0 rfl E_m0 29 rfl (by decide) pp73 dX13_remember_188 ?_
  refine lv_iload_n hx hb dX13_remember_191 rfl (lv_at hl 0 rfl) ?_
  refine lv_iinc (v := 28) (lv' := [(1, .int 28), (2, .int 2), (0, .ref m0)]) hx hb dX13_remember_192 hl (k := 0) rfl (by decide) (by decide) rfl (fun ls hl => ?_)
  refine lv_aload_n hx hb dX13_remember_195 rfl (lv_at hl 2 rfl) ?_
  refine pq_get (own := RX13) (ci := 13) (C := RX13) (T := TX13) (N := 229) (k := 23) (v := .ref w17) hx hb hpp pi13 rfl hown hG hW 0 rfl E_m0 12 rfl (by decide) pp87 dX13_remember_196 ?_
  refine lv_iload_n hx hb dX13_remember_199 rfl (lv_at hl 1 rfl) ?_
  refine pq_iald (v := 0) hx hb hG hW 6 rfl (vp_in_iff.mpr ⟨by decide, by decide⟩) rfl dX13_remember_200 ?_
  refine pq_iast hx hb hG hW 1 rfl (vp_in_iff.mpr ⟨by decide, by decide⟩) dX13_remember_201 (fun H locs hW => ?_)
  have hW : pq_W D _ s.heap L f _ [(m0, .inr (13, F_m0)), (w59, .inl (cy 1, 80, .inl _)), (w13, .inl (cy 1, 8, .inl (fun _ => 0))), (w14, .inl (cy 1, 8, .inl (fun _ => 0))), (w15, .inl (cy 1, 8, .inl (fun _ => 0))), (w16, .inl (cy 1, 8, .inl (fun _ => 0))), (w17, .inl (cy 1, 8, .inl (fun _ => 0))), (w18, .inl (cy 1, 8, .inl (fun _ => 0))), (w19, .inl (cy 1, 8, .inl (fun _ => 0)))] H locs := hW
  refine lv_aload_n hx hb dX13_remember_202 rfl (lv_at hl 2 rfl) ?_
  refine pq_get (own := RX13) (ci := 13) (C := RX13) (T := TX13) (N := 229) (k := 97) (v := .ref w59) hx hb hpp pi13 rfl hown hG hW 0 rfl E_m0 29 rfl (by decide) pp73 dX13_remember_203 ?_
  refine lv_iload_n hx hb dX13_remember_206 rfl (lv_at hl 0 rfl) ?_
  refine lv_iinc (v := 29) (lv' := [(1, .int 29), (2, .int 2), (0, .ref m0)]) hx hb dX13_remember_207 hl (k := 0) rfl (by decide) (by decide) rfl (fun ls hl => ?_)
  refine lv_aload_n hx hb dX13_remember_210 rfl (lv_at hl 2 rfl) ?_
  refine pq_get (own := RX13) (ci := 13) (C := RX13) (T := TX13) (N := 229) (k := 24) (v := .ref w18) hx hb hpp pi13 rfl hown hG hW 0 rfl E_m0 13 rfl (by decide) pp88 dX13_remember_211 ?_
  refine lv_iload_n hx hb dX13_remember_214 rfl (lv_at hl 1 rfl) ?_
  refine pq_iald (v := 0) hx hb hG hW 7 rfl (vp_in_iff.mpr ⟨by decide, by decide⟩) rfl dX13_remember_215 ?_
  refine pq_iast hx hb hG hW 1 rfl (vp_in_iff.mpr ⟨by decide, by decide⟩) dX13_remember_216 (fun H locs hW => ?_)
  have hW : pq_W D _ s.heap L f _ [(m0, .inr (13, F_m0)), (w59, .inl (cy 1, 80, .inl _)), (w13, .inl (cy 1, 8, .inl (fun _ => 0))), (w14, .inl (cy 1, 8, .inl (fun _ => 0))), (w15, .inl (cy 1, 8, .inl (fun _ => 0))), (w16, .inl (cy 1, 8, .inl (fun _ => 0))), (w17, .inl (cy 1, 8, .inl (fun _ => 0))), (w18, .inl (cy 1, 8, .inl (fun _ => 0))), (w19, .inl (cy 1, 8, .inl (fun _ => 0)))] H locs := hW
  refine lv_aload_n hx hb dX13_remember_217 rfl (lv_at hl 2 rfl) ?_
  refine pq_get (own := RX13) (ci := 13) (C := RX13) (T := TX13) (N := 229) (k := 97) (v := .ref w59) hx hb hpp pi13 rfl hown hG hW 0 rfl E_m0 29 rfl (by decide) pp73 dX13_remember_218 ?_
  refine lv_iload_n hx hb dX13_remember_221 rfl (lv_at hl 0 rfl) ?_
  refine lv_iinc (v := 30) (lv' := [(1, .int 30), (2, .int 2), (0, .ref m0)]) hx hb dX13_remember_222 hl (k := 0) rfl (by decide) (by decide) rfl (fun ls hl => ?_)
  refine lv_aload_n hx hb dX13_remember_225 rfl (lv_at hl 2 rfl) ?_
  refine pq_get (own := RX13) (ci := 13) (C := RX13) (T := TX13) (N := 229) (k := 25) (v := .ref w19) hx hb hpp pi13 rfl hown hG hW 0 rfl E_m0 14 rfl (by decide) pp89 dX13_remember_226 ?_
  refine lv_iload_n hx hb dX13_remember_229 rfl (lv_at hl 1 rfl) ?_
  refine pq_iald (v := 0) hx hb hG hW 8 rfl (vp_in_iff.mpr ⟨by decide, by decide⟩) rfl dX13_remember_230 ?_
  refine pq_iast hx hb hG hW 1 rfl (vp_in_iff.mpr ⟨by decide, by decide⟩) dX13_remember_231 (fun H locs hW => ?_)
  have hW : pq_W D _ s.heap L f _ [(m0, .inr (13, F_m0)), (w59, .inl (cy 1, 80, .inl _)), (w13, .inl (cy 1, 8, .inl (fun _ => 0))), (w14, .inl (cy 1, 8, .inl (fun _ => 0))), (w15, .inl (cy 1, 8, .inl (fun _ => 0))), (w16, .inl (cy 1, 8, .inl (fun _ => 0))), (w17, .inl (cy 1, 8, .inl (fun _ => 0))), (w18, .inl (cy 1, 8, .inl (fun _ => 0))), (w19, .inl (cy 1, 8, .inl (fun _ => 0)))] H locs := hW
  refine lv_iinc (v := 3) (lv' := [(2, .int 3), (1, .int 30), (0, .ref m0)]) hx hb dX13_remember_232 hl (k := 1) rfl (by decide) (by decide) rfl (fun ls hl => ?_)
  refine lv_goto (tgt := 121) hx hb dX13_remember_235 (by decide) ?_
  refine lv_iload_n hx hb dX13_remember_121 rfl (lv_at hl 0 rfl) ?_
  refine lv_bipush (v := 8) hx hb dX13_remember_122 (by decide) ?_
  refine lv_icmp_ge (tgt := 238) hx hb dX13_remember_124 (by decide) (fun c9 => absurd c9 (by decide)) (fun _ => ?_)
  refine lv_aload_n hx hb dX13_remember_127 rfl (lv_at hl 2 rfl) ?_
  refine pq_get (own := RX13) (ci := 13) (C := RX13) (T := TX13) (N := 229) (k := 97) (v := .ref w59) hx hb hpp pi13 rfl hown hG hW 0 rfl E_m0 29 rfl (by decide) pp73 dX13_remember_128 ?_
  refine lv_iload_n hx hb dX13_remember_131 rfl (lv_at hl 1 rfl) ?_
  refine lv_iinc (v := 31) (lv' := [(1, .int 31), (2, .int 3), (0, .ref m0)]) hx hb dX13_remember_132 hl (k := 1) rfl (by decide) (by decide) rfl (fun ls hl => ?_)
  refine lv_aload_n hx hb dX13_remember_135 rfl (lv_at hl 2 rfl) ?_
  refine pq_get (own := RX13) (ci := 13) (C := RX13) (T := TX13) (N := 229) (k := 19) (v := .ref w13) hx hb hpp pi13 rfl hown hG hW 0 rfl E_m0 8 rfl (by decide) pp83 dX13_remember_136 ?_
  refine lv_iload_n hx hb dX13_remember_139 rfl (lv_at hl 1 rfl) ?_
  refine pq_iald (v := 0) hx hb hG hW 2 rfl (vp_in_iff.mpr ⟨by decide, by decide⟩) rfl dX13_remember_140 ?_
  refine pq_iast hx hb hG hW 1 rfl (vp_in_iff.mpr ⟨by decide, by decide⟩) dX13_remember_141 (fun H locs hW => ?_)
  have hW : pq_W D _ s.heap L f _ [(m0, .inr (13, F_m0)), (w59, .inl (cy 1, 80, .inl _)), (w13, .inl (cy 1, 8, .inl (fun _ => 0))), (w14, .inl (cy 1, 8, .inl (fun _ => 0))), (w15, .inl (cy 1, 8, .inl (fun _ => 0))), (w16, .inl (cy 1, 8, .inl (fun _ => 0))), (w17, .inl (cy 1, 8, .inl (fun _ => 0))), (w18, .inl (cy 1, 8, .inl (fun _ => 0))), (w19, .inl (cy 1, 8, .inl (fun _ => 0)))] H locs := hW
  refine lv_aload_n hx hb dX13_remember_142 rfl (lv_at hl 2 rfl) ?_
  refine pq_get (own := RX13) (ci := 13) (C := RX13) (T := TX13) (N := 229) (k := 97) (v := .ref w59) hx hb hpp pi13 rfl hown hG hW 0 rfl E_m0 29 rfl (by decide) pp73 dX13_remember_143 ?_
  refine lv_iload_n hx hb dX13_remember_146 rfl (lv_at hl 0 rfl) ?_
  refine lv_iinc (v := 32) (lv' := [(1, .int 32), (2, .int 3), (0, .ref m0)]) hx hb dX13_remember_147 hl (k := 0) rfl (by decide) (by decide) rfl (fun ls hl => ?_)
  refine lv_aload_n hx hb dX13_remember_150 rfl (lv_at hl 2 rfl) ?_
  refine pq_get (own := RX13) (ci := 13) (C := RX13) (T := TX13) (N := 229) (k := 20) (v := .ref w14) hx hb hpp pi13 rfl hown hG hW 0 rfl E_m0 9 rfl (by decide) pp84 dX13_remember_151 ?_
  refine lv_iload_n hx hb dX13_remember_154 rfl (lv_at hl 1 rfl) ?_
  refine pq_iald (v := 0) hx hb hG hW 3 rfl (vp_in_iff.mpr ⟨by decide, by decide⟩) rfl dX13_remember_155 ?_
  refine pq_iast hx hb hG hW 1 rfl (vp_in_iff.mpr ⟨by decide, by decide⟩) dX13_remember_156 (fun H locs hW => ?_)
  have hW : pq_W D _ s.heap L f _ [(m0, .inr (13, F_m0)), (w59, .inl (cy 1, 80, .inl _)), (w13, .inl (cy 1, 8, .inl (fun _ => 0))), (w14, .inl (cy 1, 8, .inl (fun _ => 0))), (w15, .inl (cy 1, 8, .inl (fun _ => 0))), (w16, .inl (cy 1, 8, .inl (fun _ => 0))), (w17, .inl (cy 1, 8, .inl (fun _ => 0))), (w18, .inl (cy 1, 8, .inl (fun _ => 0))), (w19, .inl (cy 1, 8, .inl (fun _ => 0)))] H locs := hW
  refine lv_aload_n hx hb dX13_remember_157 rfl (lv_at hl 2 rfl) ?_
  refine pq_get (own := RX13) (ci := 13) (C := RX13) (T := TX13) (N := 229) (k := 97) (v := .ref w59) hx hb hpp pi13 rfl hown hG hW 0 rfl E_m0 29 rfl (by decide) pp73 dX13_remember_158 ?_
  refine lv_iload_n hx hb dX13_remember_161 rfl (lv_at hl 0 rfl) ?_
  refine lv_iinc (v := 33) (lv' := [(1, .int 33), (2, .int 3), (0, .ref m0)]) hx hb dX13_remember_162 hl (k := 0) rfl (by decide) (by decide) rfl (fun ls hl => ?_)
  refine lv_aload_n hx hb dX13_remember_165 rfl (lv_at hl 2 rfl) ?_
  refine pq_get (own := RX13) (ci := 13) (C := RX13) (T := TX13) (N := 229) (k := 21) (v := .ref w15) hx hb hpp pi13 rfl hown hG hW 0 rfl E_m0 10 rfl (by decide) pp85 dX13_remember_166 ?_
  refine lv_iload_n hx hb dX13_remember_169 rfl (lv_at hl 1 rfl) ?_
  refine pq_iald (v := 0) hx hb hG hW 4 rfl (vp_in_iff.mpr ⟨by decide, by decide⟩) rfl dX13_remember_170 ?_
  refine pq_iast hx hb hG hW 1 rfl (vp_in_iff.mpr ⟨by decide, by decide⟩) dX13_remember_171 (fun H locs hW => ?_)
  have hW : pq_W D _ s.heap L f _ [(m0, .inr (13, F_m0)), (w59, .inl (cy 1, 80, .inl _)), (w13, .inl (cy 1, 8, .inl (fun _ => 0))), (w14, .inl (cy 1, 8, .inl (fun _ => 0))), (w15, .inl (cy 1, 8, .inl (fun _ => 0))), (w16, .inl (cy 1, 8, .inl (fun _ => 0))), (w17, .inl (cy 1, 8, .inl (fun _ => 0))), (w18, .inl (cy 1, 8, .inl (fun _ => 0))), (w19, .inl (cy 1, 8, .inl (fun _ => 0)))] H locs := hW
  refine lv_aload_n hx hb dX13_remember_172 rfl (lv_at hl 2 rfl) ?_
  refine pq_get (own := RX13) (ci := 13) (C := RX13) (T := TX13) (N := 229) (k := 97) (v := .ref w59) hx hb hpp pi13 rfl hown hG hW 0 rfl E_m0 29 rfl (by decide) pp73 dX13_remember_173 ?_
  refine lv_iload_n hx hb dX13_remember_176 rfl (lv_at hl 0 rfl) ?_
  refine lv_iinc (v := 34) (lv' := [(1, .int 34), (2, .int 3), (0, .ref m0)]) hx hb dX13_remember_177 hl (k := 0) rfl (by decide) (by decide) rfl (fun ls hl => ?_)
  refine lv_aload_n hx hb dX13_remember_180 rfl (lv_at hl 2 rfl) ?_
  refine pq_get (own := RX13) (ci := 13) (C := RX13) (T := TX13) (N := 229) (k := 22) (v := .ref w16) hx hb hpp pi13 rfl hown hG hW 0 rfl E_m0 11 rfl (by decide) pp86 dX13_remember_181 ?_
  refine lv_iload_n hx hb dX13_remember_184 rfl (lv_at hl 1 rfl) ?_
  refine pq_iald (v := 0) hx hb hG hW 5 rfl (vp_in_iff.mpr ⟨by decide, by decide⟩) rfl dX13_remember_185 ?_
  refine pq_iast hx hb hG hW 1 rfl (vp_in_iff.mpr ⟨by decide, by decide⟩) dX13_remember_186 (fun H locs hW => ?_)
  have hW : pq_W D _ s.heap L f _ [(m0, .inr (13, F_m0)), (w59, .inl (cy 1, 80, .inl _)), (w13, .inl (cy 1, 8, .inl (fun _ => 0))), (w14, .inl (cy 1, 8, .inl (fun _ => 0))), (w15, .inl (cy 1, 8, .inl (fun _ => 0))), (w16, .inl (cy 1, 8, .inl (fun _ => 0))), (w17, .inl (cy 1, 8, .inl (fun _ => 0))), (w18, .inl (cy 1, 8, .inl (fun _ => 0))), (w19, .inl (cy 1, 8, .inl (fun _ => 0)))] H locs := hW
  refine lv_aload_n hx hb dX13_remember_187 rfl (lv_at hl 2 rfl) ?_
  refine pq_get (own := RX13) (ci := 13) (C := RX13) (T := TX13) (N := 229) (k := 97) (v := .ref w59) hx hb hpp pi13 rfl hown hG hW 0 rfl E_m0 29 rfl (by decide) pp73 dX13_remember_188 ?_
  refine lv_iload_n hx hb dX13_remember_191 rfl (lv_at hl 0 rfl) ?_
  refine lv_iinc (v := 35) (lv' := [(1, .int 35), (2, .int 3), (0, .ref m0)]) hx hb dX13_remember_192 hl (k := 0) rfl (by decide) (by decide) rfl (fun ls hl => ?_)
  refine lv_aload_n hx hb dX13_remember_195 rfl (lv_at hl 2 rfl) ?_
  refine pq_get (own := RX13) (ci := 13) (C := RX13) (T := TX13) (N := 229) (k := 23) (v := .ref w17) hx hb hpp pi13 rfl hown hG hW 0 rfl E_m0 12 rfl (by decide) pp87 dX13_remember_196 ?_
  refine lv_iload_n hx hb dX13_remember_199 rfl (lv_at hl 1 rfl) ?_
  refine pq_iald (v := 0) hx hb hG hW 6 rfl (vp_in_iff.mpr ⟨by decide, by decide⟩) rfl dX13_remember_200 ?_
  refine pq_iast hx hb hG hW 1 rfl (vp_in_iff.mpr ⟨by decide, by decide⟩) dX13_remember_201 (fun H locs hW => ?_)
  have hW : pq_W D _ s.heap L f _ [(m0, .inr (13, F_m0)), (w59, .inl (cy 1, 80, .inl _)), (w13, .inl (cy 1, 8, .inl (fun _ => 0))), (w14, .inl (cy 1, 8, .inl (fun _ => 0))), (w15, .inl (cy 1, 8, .inl (fun _ => 0))), (w16, .inl (cy 1, 8, .inl (fun _ => 0))), (w17, .inl (cy 1, 8, .inl (fun _ => 0))), (w18, .inl (cy 1, 8, .inl (fun _ => 0))), (w19, .inl (cy 1, 8, .inl (fun _ => 0)))] H locs := hW
  refine lv_aload_n hx hb dX13_remember_202 rfl (lv_at hl 2 rfl) ?_
  refine pq_get (own := RX13) (ci := 13) (C := RX13) (T := TX13) (N := 229) (k := 97) (v := .ref w59) hx hb hpp pi13 rfl hown hG hW 0 rfl E_m0 29 rfl (by decide) pp73 dX13_remember_203 ?_
  refine lv_iload_n hx hb dX13_remember_206 rfl (lv_at hl 0 rfl) ?_
  refine lv_iinc (v := 36) (lv' := [(1, .int 36), (2, .int 3), (0, .ref m0)]) hx hb dX13_remember_207 hl (k := 0) rfl (by decide) (by decide) rfl (fun ls hl => ?_)
  refine lv_aload_n hx hb dX13_remember_210 rfl (lv_at hl 2 rfl) ?_
  refine pq_get (own := RX13) (ci := 13) (C := RX13) (T := TX13) (N := 229) (k := 24) (v := .ref w18) hx hb hpp pi13 rfl hown hG hW 0 rfl E_m0 13 rfl (by decide) pp88 dX13_remember_211 ?_
  refine lv_iload_n hx hb dX13_remember_214 rfl (lv_at hl 1 rfl) ?_
  refine pq_iald (v := 0) hx hb hG hW 7 rfl (vp_in_iff.mpr ⟨by decide, by decide⟩) rfl dX13_remember_215 ?_
  refine pq_iast hx hb hG hW 1 rfl (vp_in_iff.mpr ⟨by decide, by decide⟩) dX13_remember_216 (fun H locs hW => ?_)
  have hW : pq_W D _ s.heap L f _ [(m0, .inr (13, F_m0)), (w59, .inl (cy 1, 80, .inl _)), (w13, .inl (cy 1, 8, .inl (fun _ => 0))), (w14, .inl (cy 1, 8, .inl (fun _ => 0))), (w15, .inl (cy 1, 8, .inl (fun _ => 0))), (w16, .inl (cy 1, 8, .inl (fun _ => 0))), (w17, .inl (cy 1, 8, .inl (fun _ => 0))), (w18, .inl (cy 1, 8, .inl (fun _ => 0))), (w19, .inl (cy 1, 8, .inl (fun _ => 0)))] H locs := hW
  refine lv_aload_n hx hb dX13_remember_217 rfl (lv_at hl 2 rfl) ?_
  refine pq_get (own := RX13) (ci := 13) (C := RX13) (T := TX13) (N := 229) (k := 97) (v := .ref w59) hx hb hpp pi13 rfl hown hG hW 0 rfl E_m0 29 rfl (by decide) pp73 dX13_remember_218 ?_
  refine lv_iload_n hx hb dX13_remember_221 rfl (lv_at hl 0 rfl) ?_
  refine lv_iinc (v := 37) (lv' := [(1, .int 37), (2, .int 3), (0, .ref m0)]) hx hb dX13_remember_222 hl (k := 0) rfl (by decide) (by decide) rfl (fun ls hl => ?_)
  refine lv_aload_n hx hb dX13_remember_225 rfl (lv_at hl 2 rfl) ?_
  refine pq_get (own := RX13) (ci := 13) (C := RX13) (T := TX13) (N := 229) (k := 25) (v := .ref w19) hx hb hpp pi13 rfl hown hG hW 0 rfl E_m0 14 rfl (by decide) pp89 dX13_remember_226 ?_
  refine lv_iload_n hx hb dX13_remember_229 rfl (lv_at hl 1 rfl) ?_
  refine pq_iald (v := 0) hx hb hG hW 8 rfl (vp_in_iff.mpr ⟨by decide, by decide⟩) rfl dX13_remember_230 ?_
  refine pq_iast hx hb hG hW 1 rfl (vp_in_iff.mpr ⟨by decide, by decide⟩) dX13_remember_231 (fun H locs hW => ?_)
  have hW : pq_W D _ s.heap L f _ [(m0, .inr (13, F_m0)), (w59, .inl (cy 1, 80, .inl _)), (w13, .inl (cy 1, 8, .inl (fun _ => 0))), (w14, .inl (cy 1, 8, .inl (fun _ => 0))), (w15, .inl (cy 1, 8, .inl (fun _ => 0))), (w16, .inl (cy 1, 8, .inl (fun _ => 0))), (w17, .inl (cy 1, 8, .inl (fun _ => 0))), (w18, .inl (cy 1, 8, .inl (fun _ => 0))), (w19, .inl (cy 1, 8, .inl (fun _ => 0)))] H locs := hW
  refine lv_iinc (v := 4) (lv' := [(2, .int 4), (1, .int 37), (0, .ref m0)]) hx hb dX13_remember_232 hl (k := 1) rfl (by decide) (by decide) rfl (fun ls hl => ?_)
  refine lv_goto (tgt := 121) hx hb dX13_remember_235 (by decide) ?_
  refine lv_iload_n hx hb dX13_remember_121 rfl (lv_at hl 0 rfl) ?_
  refine lv_bipush (v := 8) hx hb dX13_remember_122 (by decide) ?_
  refine lv_icmp_ge (tgt := 238) hx hb dX13_remember_124 (by decide) (fun c9 => absurd c9 (by decide)) (fun _ => ?_)
  refine lv_aload_n hx hb dX13_remember_127 rfl (lv_at hl 2 rfl) ?_
  refine pq_get (own := RX13) (ci := 13) (C := RX13) (T := TX13) (N := 229) (k := 97) (v := .ref w59) hx hb hpp pi13 rfl hown hG hW 0 rfl E_m0 29 rfl (by decide) pp73 dX13_remember_128 ?_
  refine lv_iload_n hx hb dX13_remember_131 rfl (lv_at hl 1 rfl) ?_
  refine lv_iinc (v := 38) (lv' := [(1, .int 38), (2, .int 4), (0, .ref m0)]) hx hb dX13_remember_132 hl (k := 1) rfl (by decide) (by decide) rfl (fun ls hl => ?_)
  refine lv_aload_n hx hb dX13_remember_135 rfl (lv_at hl 2 rfl) ?_
  refine pq_get (own := RX13) (ci := 13) (C := RX13) (T := TX13) (N := 229) (k := 19) (v := .ref w13) hx hb hpp pi13 rfl hown hG hW 0 rfl E_m0 8 rfl (by decide) pp83 dX13_remember_136 ?_
  refine lv_iload_n hx hb dX13_remember_139 rfl (lv_at hl 1 rfl) ?_
  refine pq_iald (v := 0) hx hb hG hW 2 rfl (vp_in_iff.mpr ⟨by decide, by decide⟩) rfl dX13_remember_140 ?_
  refine pq_iast hx hb hG hW 1 rfl (vp_in_iff.mpr ⟨by decide, by decide⟩) dX13_remember_141 (fun H locs hW => ?_)
  have hW : pq_W D _ s.heap L f _ [(m0, .inr (13, F_m0)), (w59, .inl (cy 1, 80, .inl _)), (w13, .inl (cy 1, 8, .inl (fun _ => 0))), (w14, .inl (cy 1, 8, .inl (fun _ => 0))), (w15, .inl (cy 1, 8, .inl (fun _ => 0))), (w16, .inl (cy 1, 8, .inl (fun _ => 0))), (w17, .inl (cy 1, 8, .inl (fun _ => 0))), (w18, .inl (cy 1, 8, .inl (fun _ => 0))), (w19, .inl (cy 1, 8, .inl (fun _ => 0)))] H locs := hW
  refine lv_aload_n hx hb dX13_remember_142 rfl (lv_at hl 2 rfl) ?_
  refine pq_get (own := RX13) (ci := 13) (C := RX13) (T := TX13) (N := 229) (k := 97) (v := .ref w59) hx hb hpp pi13 rfl hown hG hW 0 rfl E_m0 29 rfl (by decide) pp73 dX13_remember_143 ?_
  refine lv_iload_n hx hb dX13_remember_146 rfl (lv_at hl 0 rfl) ?_
  refine lv_iinc (v := 39) (lv' := [(1, .int 39), (2, .int 4), (0, .ref m0)]) hx hb dX13_remember_147 hl (k := 0) rfl (by decide) (by decide) rfl (fun ls hl => ?_)
  refine lv_aload_n hx hb dX13_remember_150 rfl (lv_at hl 2 rfl) ?_
  refine pq_get (own := RX13) (ci := 13) (C := RX13) (T := TX13) (N := 229) (k := 20) (v := .ref w14) hx hb hpp pi13 rfl hown hG hW 0 rfl E_m0 9 rfl (by decide) pp84 dX13_remember_151 ?_
  refine lv_iload_n hx hb dX13_remember_154 rfl (lv_at hl 1 rfl) ?_
  refine pq_iald (v := 0) hx hb hG hW 3 rfl (vp_in_iff.mpr ⟨by decide, by decide⟩) rfl dX13_remember_155 ?_
  refine pq_iast hx hb hG hW 1 rfl (vp_in_iff.mpr ⟨by decide, by decide⟩) dX13_remember_156 (fun H locs hW => ?_)
  have hW : pq_W D _ s.heap L f _ [(m0, .inr (13, F_m0)), (w59, .inl (cy 1, 80, .inl _)), (w13, .inl (cy 1, 8, .inl (fun _ => 0))), (w14, .inl (cy 1, 8, .inl (fun _ => 0))), (w15, .inl (cy 1, 8, .inl (fun _ => 0))), (w16, .inl (cy 1, 8, .inl (fun _ => 0))), (w17, .inl (cy 1, 8, .inl (fun _ => 0))), (w18, .inl (cy 1, 8, .inl (fun _ => 0))), (w19, .inl (cy 1, 8, .inl (fun _ => 0)))] H locs := hW
  refine lv_aload_n hx hb dX13_remember_157 rfl (lv_at hl 2 rfl) ?_
  refine pq_get (own := RX13) (ci := 13) (C := RX13) (T := TX13) (N := 229) (k := 97) (v := .ref w59) hx hb hpp pi13 rfl hown hG hW 0 rfl E_m0 29 rfl (by decide) pp73 dX13_remember_158 ?_
  refine lv_iload_n hx hb dX13_remember_161 rfl (lv_at hl 0 rfl) ?_
  refine lv_iinc (v := 40) (lv' := [(1, .int 40), (2, .int 4), (0, .ref m0)]) hx hb dX13_remember_162 hl (k := 0) rfl (by decide) (by decide) rfl (fun ls hl => ?_)
  refine lv_aload_n hx hb dX13_remember_165 rfl (lv_at hl 2 rfl) ?_
  refine pq_get (own := RX13) (ci := 13) (C := RX13) (T := TX13) (N := 229) (k := 21) (v := .ref w15) hx hb hpp pi13 rfl hown hG hW 0 rfl E_m0 10 rfl (by decide) pp85 dX13_remember_166 ?_
  refine lv_iload_n hx hb dX13_remember_169 rfl (lv_at hl 1 rfl) ?_
  refine pq_iald (v := 0) hx hb hG hW 4 rfl (vp_in_iff.mpr ⟨by decide, by decide⟩) rfl dX13_remember_170 ?_
  refine pq_iast hx hb hG hW 1 rfl (vp_in_iff.mpr ⟨by decide, by decide⟩) dX13_remember_171 (fun H locs hW => ?_)
  have hW : pq_W D _ s.heap L f _ [(m0, .inr (13, F_m0)), (w59, .inl (cy 1, 80, .inl _)), (w13, .inl (cy 1, 8, .inl (fun _ => 0))), (w14, .inl (cy 1, 8, .inl (fun _ => 0))), (w15, .inl (cy 1, 8, .inl (fun _ => 0))), (w16, .inl (cy 1, 8, .inl (fun _ => 0))), (w17, .inl (cy 1, 8, .inl (fun _ => 0))), (w18, .inl (cy 1, 8, .inl (fun _ => 0))), (w19, .inl (cy 1, 8, .inl (fun _ => 0)))] H locs := hW
  refine lv_aload_n hx hb dX13_remember_172 rfl (lv_at hl 2 rfl) ?_
  refine pq_get (own := RX13) (ci := 13) (C := RX13) (T := TX13) (N := 229) (k := 97) (v := .ref w59) hx hb hpp pi13 rfl hown hG hW 0 rfl E_m0 29 rfl (by decide) pp73 dX13_remember_173 ?_
  refine lv_iload_n hx hb dX13_remember_176 rfl (lv_at hl 0 rfl) ?_
  refine lv_iinc (v := 41) (lv' := [(1, .int 41), (2, .int 4), (0, .ref m0)]) hx hb dX13_remember_177 hl (k := 0) rfl (by decide) (by decide) rfl (fun ls hl => ?_)
  refine lv_aload_n hx hb dX13_remember_180 rfl (lv_at hl 2 rfl) ?_
  refine pq_get (own := RX13) (ci := 13) (C := RX13) (T := TX13) (N := 229) (k := 22) (v := .ref w16) hx hb hpp pi13 rfl hown hG hW 0 rfl E_m0 11 rfl (by decide) pp86 dX13_remember_181 ?_
  refine lv_iload_n hx hb dX13_remember_184 rfl (lv_at hl 1 rfl) ?_
  refine pq_iald (v := 0) hx hb hG hW 5 rfl (vp_in_iff.mpr ⟨by decide, by decide⟩) rfl dX13_remember_185 ?_
  refine pq_iast hx hb hG hW 1 rfl (vp_in_iff.mpr ⟨by decide, by decide⟩) dX13_remember_186 (fun H locs hW => ?_)
  have hW : pq_W D _ s.heap L f _ [(m0, .inr (13, F_m0)), (w59, .inl (cy 1, 80, .inl _)), (w13, .inl (cy 1, 8, .inl (fun _ => 0))), (w14, .inl (cy 1, 8, .inl (fun _ => 0))), (w15, .inl (cy 1, 8, .inl (fun _ => 0))), (w16, .inl (cy 1, 8, .inl (fun _ => 0))), (w17, .inl (cy 1, 8, .inl (fun _ => 0))), (w18, .inl (cy 1, 8, .inl (fun _ => 0))), (w19, .inl (cy 1, 8, .inl (fun _ => 0)))] H locs := hW
  refine lv_aload_n hx hb dX13_remember_187 rfl (lv_at hl 2 rfl) ?_
  refine pq_get (own := RX13) (ci := 13) (C := RX13) (T := TX13) (N := 229) (k := 97) (v := .ref w59) hx hb hpp pi13 rfl hown hG hW 0 rfl E_m0 29 rfl (by decide) pp73 dX13_remember_188 ?_
  refine lv_iload_n hx hb dX13_remember_191 rfl (lv_at hl 0 rfl) ?_
  refine lv_iinc (v := 42) (lv' := [(1, .int 42), (2, .int 4), (0, .ref m0)]) hx hb dX13_remember_192 hl (k := 0) rfl (by decide) (by decide) rfl (fun ls hl => ?_)
  refine lv_aload_n hx hb dX13_remember_195 rfl (lv_at hl 2 rfl) ?_
  refine pq_get (own := RX13) (ci := 13) (C := RX13) (T := TX13) (N := 229) (k := 23) (v := .ref w17) hx hb hpp pi13 rfl hown hG hW 0 rfl E_m0 12 rfl (by decide) pp87 dX13_remember_196 ?_
  refine lv_iload_n hx hb dX13_remember_199 rfl (lv_at hl 1 rfl) ?_
  refine pq_iald (v := 0) hx hb hG hW 6 rfl (vp_in_iff.mpr ⟨by decide, by decide⟩) rfl dX13_remember_200 ?_
  refine pq_iast hx hb hG hW 1 rfl (vp_in_iff.mpr ⟨by decide, by decide⟩) dX13_remember_201 (fun H locs hW => ?_)
  have hW : pq_W D _ s.heap L f _ [(m0, .inr (13, F_m0)), (w59, .inl (cy 1, 80, .inl _)), (w13, .inl (cy 1, 8, .inl (fun _ => 0))), (w14, .inl (cy 1, 8, .inl (fun _ => 0))), (w15, .inl (cy 1, 8, .inl (fun _ => 0))), (w16, .inl (cy 1, 8, .inl (fun _ => 0))), (w17, .inl (cy 1, 8, .inl (fun _ => 0))), (w18, .inl (cy 1, 8, .inl (fun _ => 0))), (w19, .inl (cy 1, 8, .inl (fun _ => 0)))] H locs := hW
  refine lv_aload_n hx hb dX13_remember_202 rfl (lv_at hl 2 rfl) ?_
  refine pq_get (own := RX13) (ci := 13) (C := RX13) (T := TX13) (N := 229) (k := 97) (v := .ref w59) hx hb hpp pi13 rfl hown hG hW 0 rfl E_m0 29 rfl (by decide) pp73 dX13_remember_203 ?_
  refine lv_iload_n hx hb dX13_remember_206 rfl (lv_at hl 0 rfl) ?_
  refine lv_iinc (v := 43) (lv' := [(1, .int 43), (2, .int 4), (0, .ref m0)]) hx hb dX13_remember_207 hl (k := 0) rfl (by decide) (by decide) rfl (fun ls hl => ?_)
  refine lv_aload_n hx hb dX13_remember_210 rfl (lv_at hl 2 rfl) ?_
  refine pq_get (own := RX13) (ci := 13) (C := RX13) (T := TX13) (N := 229) (k := 24) (v := .ref w18) hx hb hpp pi13 rfl hown hG hW 0 rfl E_m0 13 rfl (by decide) pp88 dX13_remember_211 ?_
  refine lv_iload_n hx hb dX13_remember_214 rfl (lv_at hl 1 rfl) ?_
  refine pq_iald (v := 0) hx hb hG hW 7 rfl (vp_in_iff.mpr ⟨by decide, by decide⟩) rfl dX13_remember_215 ?_
  refine pq_iast hx hb hG hW 1 rfl (vp_in_iff.mpr ⟨by decide, by decide⟩) dX13_remember_216 (fun H locs hW => ?_)
  have hW : pq_W D _ s.heap L f _ [(m0, .inr (13, F_m0)), (w59, .inl (cy 1, 80, .inl _)), (w13, .inl (cy 1, 8, .inl (fun _ => 0))), (w14, .inl (cy 1, 8, .inl (fun _ => 0))), (w15, .inl (cy 1, 8, .inl (fun _ => 0))), (w16, .inl (cy 1, 8, .inl (fun _ => 0))), (w17, .inl (cy 1, 8, .inl (fun _ => 0))), (w18, .inl (cy 1, 8, .inl (fun _ => 0))), (w19, .inl (cy 1, 8, .inl (fun _ => 0)))] H locs := hW
  refine lv_aload_n hx hb dX13_remember_217 rfl (lv_at hl 2 rfl) ?_
  refine pq_get (own := RX13) (ci := 13) (C := RX13) (T := TX13) (N := 229) (k := 97) (v := .ref w59) hx hb hpp pi13 rfl hown hG hW 0 rfl E_m0 29 rfl (by decide) pp73 dX13_remember_218 ?_
  refine lv_iload_n hx hb dX13_remember_221 rfl (lv_at hl 0 rfl) ?_
  refine lv_iinc (v := 44) (lv' := [(1, .int 44), (2, .int 4), (0, .ref m0)]) hx hb dX13_remember_222 hl (k := 0) rfl (by decide) (by decide) rfl (fun ls hl => ?_)
  refine lv_aload_n hx hb dX13_remember_225 rfl (lv_at hl 2 rfl) ?_
  refine pq_get (own := RX13) (ci := 13) (C := RX13) (T := TX13) (N := 229) (k := 25) (v := .ref w19) hx hb hpp pi13 rfl hown hG hW 0 rfl E_m0 14 rfl (by decide) pp89 dX13_remember_226 ?_
  refine lv_iload_n hx hb dX13_remember_229 rfl (lv_at hl 1 rfl) ?_
  refine pq_iald (v := 0) hx hb hG hW 8 rfl (vp_in_iff.mpr ⟨by decide, by decide⟩) rfl dX13_remember_230 ?_
  refine pq_iast hx hb hG hW 1 rfl (vp_in_iff.mpr ⟨by decide, by decide⟩) dX13_remember_231 (fun H locs hW => ?_)
  have hW : pq_W D _ s.heap L f _ [(m0, .inr (13, F_m0)), (w59, .inl (cy 1, 80, .inl _)), (w13, .inl (cy 1, 8, .inl (fun _ => 0))), (w14, .inl (cy 1, 8, .inl (fun _ => 0))), (w15, .inl (cy 1, 8, .inl (fun _ => 0))), (w16, .inl (cy 1, 8, .inl (fun _ => 0))), (w17, .inl (cy 1, 8, .inl (fun _ => 0))), (w18, .inl (cy 1, 8, .inl (fun _ => 0))), (w19, .inl (cy 1, 8, .inl (fun _ => 0)))] H locs := hW
  refine lv_iinc (v := 5) (lv' := [(2, .int 5), (1, .int 44), (0, .ref m0)]) hx hb dX13_remember_232 hl (k := 1) rfl (by decide) (by decide) rfl (fun ls hl => ?_)
  refine lv_goto (tgt := 121) hx hb dX13_remember_235 (by decide) ?_
  refine lv_iload_n hx hb dX13_remember_121 rfl (lv_at hl 0 rfl) ?_
  refine lv_bipush (v := 8) hx hb dX13_remember_122 (by decide) ?_
  refine lv_icmp_ge (tgt := 238) hx hb dX13_remember_124 (by decide) (fun c9 => absurd c9 (by decide)) (fun _ => ?_)
  refine lv_aload_n hx hb dX13_remember_127 rfl (lv_at hl 2 rfl) ?_
  refine pq_get (own := RX13) (ci := 13) (C := RX13) (T := TX13) (N := 229) (k := 97) (v := .ref w59) hx hb hpp pi13 rfl hown hG hW 0 rfl E_m0 29 rfl (by decide) pp73 dX13_remember_128 ?_
  refine lv_iload_n hx hb dX13_remember_131 rfl (lv_at hl 1 rfl) ?_
  refine lv_iinc (v := 45) (lv' := [(1, .int 45), (2, .int 5), (0, .ref m0)]) hx hb dX13_remember_132 hl (k := 1) rfl (by decide) (by decide) rfl (fun ls hl => ?_)
  refine lv_aload_n hx hb dX13_remember_135 rfl (lv_at hl 2 rfl) ?_
  refine pq_get (own := RX13) (ci := 13) (C := RX13) (T := TX13) (N := 229) (k := 19) (v := .ref w13) hx hb hpp pi13 rfl hown hG hW 0 rfl E_m0 8 rfl (by decide) pp83 dX13_remember_136 ?_
  refine lv_iload_n hx hb dX13_remember_139 rfl (lv_at hl 1 rfl) ?_
  refine pq_iald (v := 0) hx hb hG hW 2 rfl (vp_in_iff.mpr ⟨by decide, by decide⟩) rfl dX13_remember_140 ?_
  refine pq_iast hx hb hG hW 1 rfl (vp_in_iff.mpr ⟨by decide, by decide⟩) dX13_remember_141 (fun H locs hW => ?_)
  have hW : pq_W D _ s.heap L f _ [(m0, .inr (13, F_m0)), (w59, .inl (cy 1, 80, .inl _)), (w13, .inl (cy 1, 8, .inl (fun _ => 0))), (w14, .inl (cy 1, 8, .inl (fun _ => 0))), (w15, .inl (cy 1, 8, .inl (fun _ => 0))), (w16, .inl (cy 1, 8, .inl (fun _ => 0))), (w17, .inl (cy 1, 8, .inl (fun _ => 0))), (w18, .inl (cy 1, 8, .inl (fun _ => 0))), (w19, .inl (cy 1, 8, .inl (fun _ => 0)))] H locs := hW
  refine lv_aload_n hx hb dX13_remember_142 rfl (lv_at hl 2 rfl) ?_
  refine pq_get (own := RX13) (ci := 13) (C := RX13) (T := TX13) (N := 229) (k := 97) (v := .ref w59) hx hb hpp pi13 rfl hown hG hW 0 rfl E_m0 29 rfl (by decide) pp73 dX13_remember_143 ?_
  refine lv_iload_n hx hb dX13_remember_146 rfl (lv_at hl 0 rfl) ?_
  refine lv_iinc (v := 46) (lv' := [(1, .int 46), (2, .int 5), (0, .ref m0)]) hx hb dX13_remember_147 hl (k := 0) rfl (by decide) (by decide) rfl (fun ls hl => ?_)
  refine lv_aload_n hx hb dX13_remember_150 rfl (lv_at hl 2 rfl) ?_
  refine pq_get (own := RX13) (ci := 13) (C := RX13) (T := TX13) (N := 229) (k := 20) (v := .ref w14) hx hb hpp pi13 rfl hown hG hW 0 rfl E_m0 9 rfl (by decide) pp84 dX13_remember_151 ?_
  refine lv_iload_n hx hb dX13_remember_154 rfl (lv_at hl 1 rfl) ?_
  refine pq_iald (v := 0) hx hb hG hW 3 rfl (vp_in_iff.mpr ⟨by decide, by decide⟩) rfl dX13_remember_155 ?_
  refine pq_iast hx hb hG hW 1 rfl (vp_in_iff.mpr ⟨by decide, by decide⟩) dX13_remember_156 (fun H locs hW => ?_)
  have hW : pq_W D _ s.heap L f _ [(m0, .inr (13, F_m0)), (w59, .inl (cy 1, 80, .inl _)), (w13, .inl (cy 1, 8, .inl (fun _ => 0))), (w14, .inl (cy 1, 8, .inl (fun _ => 0))), (w15, .inl (cy 1, 8, .inl (fun _ => 0))), (w16, .inl (cy 1, 8, .inl (fun _ => 0))), (w17, .inl (cy 1, 8, .inl (fun _ => 0))), (w18, .inl (cy 1, 8, .inl (fun _ => 0))), (w19, .inl (cy 1, 8, .inl (fun _ => 0)))] H locs := hW
  refine lv_aload_n hx hb dX13_remember_157 rfl (lv_at hl 2 rfl) ?_
  refine pq_get (own := RX13) (ci := 13) (C := RX13) (T := TX13) (N := 229) (k := 97) (v := .ref w59) hx hb hpp pi13 rfl hown hG hW 0 rfl E_m0 29 rfl (by decide) pp73 dX13_remember_158 ?_
  refine lv_iload_n hx hb dX13_remember_161 rfl (lv_at hl 0 rfl) ?_
  refine lv_iinc (v := 47) (lv' := [(1, .int 47), (2, .int 5), (0, .ref m0)]) hx hb dX13_remember_162 hl (k := 0) rfl (by decide) (by decide) rfl (fun ls hl => ?_)
  refine lv_aload_n hx hb dX13_remember_165 rfl (lv_at hl 2 rfl) ?_
  refine pq_get (own := RX13) (ci := 13) (C := RX13) (T := TX13) (N := 229) (k := 21) (v := .ref w15) hx hb hpp pi13 rfl hown hG hW 0 rfl E_m0 10 rfl (by decide) pp85 dX13_remember_166 ?_
  refine lv_iload_n hx hb dX13_remember_169 rfl (lv_at hl 1 rfl) ?_
  refine pq_iald (v := 0) hx hb hG hW 4 rfl (vp_in_iff.mpr ⟨by decide, by decide⟩) rfl dX13_remember_170 ?_
  refine pq_iast hx hb hG hW 1 rfl (vp_in_iff.mpr ⟨by decide, by decide⟩) dX13_remember_171 (fun H locs hW => ?_)
  have hW : pq_W D _ s.heap L f _ [(m0, .inr (13, F_m0)), (w59, .inl (cy 1, 80, .inl _)), (w13, .inl (cy 1, 8, .inl (fun _ => 0))), (w14, .inl (cy 1, 8, .inl (fun _ => 0))), (w15, .inl (cy 1, 8, .inl (fun _ => 0))), (w16, .inl (cy 1, 8, .inl (fun _ => 0))), (w17, .inl (cy 1, 8, .inl (fun _ => 0))), (w18, .inl (cy 1, 8, .inl (fun _ => 0))), (w19, .inl (cy 1, 8, .inl (fun _ => 0)))] H locs := hW
  refine lv_aload_n hx hb dX13_remember_172 rfl (lv_at hl 2 rfl) ?_
  refine pq_get (own := RX13) (ci := 13) (C := RX13) (T := TX13) (N := 229) (k := 97) (v := .ref w59) hx hb hpp pi13 rfl hown hG hW 0 rfl E_m0 29 rfl (by decide) pp73 dX13_remember_173 ?_
  refine lv_iload_n hx hb dX13_remember_176 rfl (lv_at hl 0 rfl) ?_
  refine lv_iinc (v := 48) (lv' := [(1, .int 48), (2, .int 5), (0, .ref m0)]) hx hb dX13_remember_177 hl (k := 0) rfl (by decide) (by decide) rfl (fun ls hl => ?_)
  refine lv_aload_n hx hb dX13_remember_180 rfl (lv_at hl 2 rfl) ?_
  refine pq_get (own := RX13) (ci := 13) (C := RX13) (T := TX13) (N := 229) (k := 22) (v := .ref w16) hx hb hpp pi13 rfl hown hG hW 0 rfl E_m0 11 rfl (by decide) pp86 dX13_remember_181 ?_
  refine lv_iload_n hx hb dX13_remember_184 rfl (lv_at hl 1 rfl) ?_
  refine pq_iald (v := 0) hx hb hG hW 5 rfl (vp_in_iff.mpr ⟨by decide, by decide⟩) rfl dX13_remember_185 ?_
  refine pq_iast hx hb hG hW 1 rfl (vp_in_iff.mpr ⟨by decide, by decide⟩) dX13_remember_186 (fun H locs hW => ?_)
  have hW : pq_W D _ s.heap L f _ [(m0, .inr (13, F_m0)), (w59, .inl (cy 1, 80, .inl _)), (w13, .inl (cy 1, 8, .inl (fun _ => 0))), (w14, .inl (cy 1, 8, .inl (fun _ => 0))), (w15, .inl (cy 1, 8, .inl (fun _ => 0))), (w16, .inl (cy 1, 8, .inl (fun _ => 0))), (w17, .inl (cy 1, 8, .inl (fun _ => 0))), (w18, .inl (cy 1, 8, .inl (fun _ => 0))), (w19, .inl (cy 1, 8, .inl (fun _ => 0)))] H locs := hW
  refine lv_aload_n hx hb dX13_remember_187 rfl (lv_at hl 2 rfl) ?_
  refine pq_get (own := RX13) (ci := 13) (C := RX13) (T := TX13) (N := 229) (k := 97) (v := .ref w59) hx hb hpp pi13 rfl hown hG hW 0 rfl E_m0 29 rfl (by decide) pp73 dX13_remember_188 ?_
  refine lv_iload_n hx hb dX13_remember_191 rfl (lv_at hl 0 rfl) ?_
  refine lv_iinc (v := 49) (lv' := [(1, .int 49), (2, .int 5), (0, .ref m0)]) hx hb dX13_remember_192 hl (k := 0) rfl (by decide) (by decide) rfl (fun ls hl => ?_)
  refine lv_aload_n hx hb dX13_remember_195 rfl (lv_at hl 2 rfl) ?_
  refine pq_get (own := RX13) (ci := 13) (C := RX13) (T := TX13) (N := 229) (k := 23) (v := .ref w17) hx hb hpp pi13 rfl hown hG hW 0 rfl E_m0 12 rfl (by decide) pp87 dX13_remember_196 ?_
  refine lv_iload_n hx hb dX13_remember_199 rfl (lv_at hl 1 rfl) ?_
  refine pq_iald (v := 0) hx hb hG hW 6 rfl (vp_in_iff.mpr ⟨by decide, by decide⟩) rfl dX13_remember_200 ?_
  refine pq_iast hx hb hG hW 1 rfl (vp_in_iff.mpr ⟨by decide, by decide⟩) dX13_remember_201 (fun H locs hW => ?_)
  have hW : pq_W D _ s.heap L f _ [(m0, .inr (13, F_m0)), (w59, .inl (cy 1, 80, .inl _)), (w13, .inl (cy 1, 8, .inl (fun _ => 0))), (w14, .inl (cy 1, 8, .inl (fun _ => 0))), (w15, .inl (cy 1, 8, .inl (fun _ => 0))), (w16, .inl (cy 1, 8, .inl (fun _ => 0))), (w17, .inl (cy 1, 8, .inl (fun _ => 0))), (w18, .inl (cy 1, 8, .inl (fun _ => 0))), (w19, .inl (cy 1, 8, .inl (fun _ => 0)))] H locs := hW
  refine lv_aload_n hx hb dX13_remember_202 rfl (lv_at hl 2 rfl) ?_
  refine pq_get (own := RX13) (ci := 13) (C := RX13) (T := TX13) (N := 229) (k := 97) (v := .ref w59) hx hb hpp pi13 rfl hown hG hW 0 rfl E_m0 29 rfl (by decide) pp73 dX13_remember_203 ?_
  refine lv_iload_n hx hb dX13_remember_206 rfl (lv_at hl 0 rfl) ?_
  refine lv_iinc (v := 50) (lv' := [(1, .int 50), (2, .int 5), (0, .ref m0)]) hx hb dX13_remember_207 hl (k := 0) rfl (by decide) (by decide) rfl (fun ls hl => ?_)
  refine lv_aload_n hx hb dX13_remember_210 rfl (lv_at hl 2 rfl) ?_
  refine pq_get (own := RX13) (ci := 13) (C := RX13) (T := TX13) (N := 229) (k := 24) (v := .ref w18) hx hb hpp pi13 rfl hown hG hW 0 rfl E_m0 13 rfl (by decide) pp88 dX13_remember_211 ?_
  refine lv_iload_n hx hb dX13_remember_214 rfl (lv_at hl 1 rfl) ?_
  refine pq_iald (v := 0) hx hb hG hW 7 rfl (vp_in_iff.mpr ⟨by decide, by decide⟩) rfl dX13_remember_215 ?_
  refine pq_iast hx hb hG hW 1 rfl (vp_in_iff.mpr ⟨by decide, by decide⟩) dX13_remember_216 (fun H locs hW => ?_)
  have hW : pq_W D _ s.heap L f _ [(m0, .inr (13, F_m0)), (w59, .inl (cy 1, 80, .inl _)), (w13, .inl (cy 1, 8, .inl (fun _ => 0))), (w14, .inl (cy 1, 8, .inl (fun _ => 0))), (w15, .inl (cy 1, 8, .inl (fun _ => 0))), (w16, .inl (cy 1, 8, .inl (fun _ => 0))), (w17, .inl (cy 1, 8, .inl (fun _ => 0))), (w18, .inl (cy 1, 8, .inl (fun _ => 0))), (w19, .inl (cy 1, 8, .inl (fun _ => 0)))] H locs := hW
  refine lv_aload_n hx hb dX13_remember_217 rfl (lv_at hl 2 rfl) ?_
  refine pq_get (own := RX13) (ci := 13) (C := RX13) (T := TX13) (N := 229) (k := 97) (v := .ref w59) hx hb hpp pi13 rfl hown hG hW 0 rfl E_m0 29 rfl (by decide) pp73 dX13_remember_218 ?_
  refine lv_iload_n hx hb dX13_remember_221 rfl (lv_at hl 0 rfl) ?_
  refine lv_iinc (v := 51) (lv' := [(1, .int 51), (2, .int 5), (0, .ref m0)]) hx hb dX13_remember_222 hl (k := 0) rfl (by decide) (by decide) rfl (fun ls hl => ?_)
  refine lv_aload_n hx hb dX13_remember_225 rfl (lv_at hl 2 rfl) ?_
  refine pq_get (own := RX13) (ci := 13) (C := RX13) (T := TX13) (N := 229) (k := 25) (v := .ref w19) hx hb hpp pi13 rfl hown hG hW 0 rfl E_m0 14 rfl (by decide) pp89 dX13_remember_226 ?_
  refine lv_iload_n hx hb dX13_remember_229 rfl (lv_at hl 1 rfl) ?_
  refine pq_iald (v := 0) hx hb hG hW 8 rfl (vp_in_iff.mpr ⟨by decide, by decide⟩) rfl dX13_remember_230 ?_
  refine pq_iast hx hb hG hW 1 rfl (vp_in_iff.mpr ⟨by decide, by decide⟩) dX13_remember_231 (fun H locs hW => ?_)
  have hW : pq_W D _ s.heap L f _ [(m0, .inr (13, F_m0)), (w59, .inl (cy 1, 80, .inl _)), (w13, .inl (cy 1, 8, .inl (fun _ => 0))), (w14, .inl (cy 1, 8, .inl (fun _ => 0))), (w15, .inl (cy 1, 8, .inl (fun _ => 0))), (w16, .inl (cy 1, 8, .inl (fun _ => 0))), (w17, .inl (cy 1, 8, .inl (fun _ => 0))), (w18, .inl (cy 1, 8, .inl (fun _ => 0))), (w19, .inl (cy 1, 8, .inl (fun _ => 0)))] H locs := hW
  refine lv_iinc (v := 6) (lv' := [(2, .int 6), (1, .int 51), (0, .ref m0)]) hx hb dX13_remember_232 hl (k := 1) rfl (by decide) (by decide) rfl (fun ls hl => ?_)
  refine lv_goto (tgt := 121) hx hb dX13_remember_235 (by decide) ?_
  refine lv_iload_n hx hb dX13_remember_121 rfl (lv_at hl 0 rfl) ?_
  refine lv_bipush (v := 8) hx hb dX13_remember_122 (by decide) ?_
  refine lv_icmp_ge (tgt := 238) hx hb dX13_remember_124 (by decide) (fun c9 => absurd c9 (by decide)) (fun _ => ?_)
  refine lv_aload_n hx hb dX13_remember_127 rfl (lv_at hl 2 rfl) ?_
  refine pq_get (own := RX13) (ci := 13) (C := RX13) (T := TX13) (N := 229) (k := 97) (v := .ref w59) hx hb hpp pi13 rfl hown hG hW 0 rfl E_m0 29 rfl (by decide) pp73 dX13_remember_128 ?_
  refine lv_iload_n hx hb dX13_remember_131 rfl (lv_at hl 1 rfl) ?_
  refine lv_iinc (v := 52) (lv' := [(1, .int 52), (2, .int 6), (0, .ref m0)]) hx hb dX13_remember_132 hl (k := 1) rfl (by decide) (by decide) rfl (fun ls hl => ?_)
  refine lv_aload_n hx hb dX13_remember_135 rfl (lv_at hl 2 rfl) ?_
  refine pq_get (own := RX13) (ci := 13) (C := RX13) (T := TX13) (N := 229) (k := 19) (v := .ref w13) hx hb hpp pi13 rfl hown hG hW 0 rfl E_m0 8 rfl (by decide) pp83 dX13_remember_136 ?_
  refine lv_iload_n hx hb dX13_remember_139 rfl (lv_at hl 1 rfl) ?_
  refine pq_iald (v := 0) hx hb hG hW 2 rfl (vp_in_iff.mpr ⟨by decide, by decide⟩) rfl dX13_remember_140 ?_
  refine pq_iast hx hb hG hW 1 rfl (vp_in_iff.mpr ⟨by decide, by decide⟩) dX13_remember_141 (fun H locs hW => ?_)
  have hW : pq_W D _ s.heap L f _ [(m0, .inr (13, F_m0)), (w59, .inl (cy 1, 80, .inl _)), (w13, .inl (cy 1, 8, .inl (fun _ => 0))), (w14, .inl (cy 1, 8, .inl (fun _ => 0))), (w15, .inl (cy 1, 8, .inl (fun _ => 0))), (w16, .inl (cy 1, 8, .inl (fun _ => 0))), (w17, .inl (cy 1, 8, .inl (fun _ => 0))), (w18, .inl (cy 1, 8, .inl (fun _ => 0))), (w19, .inl (cy 1, 8, .inl (fun _ => 0)))] H locs := hW
  refine lv_aload_n hx hb dX13_remember_142 rfl (lv_at hl 2 rfl) ?_
  refine pq_get (own := RX13) (ci := 13) (C := RX13) (T := TX13) (N := 229) (k := 97) (v := .ref w59) hx hb hpp pi13 rfl hown hG hW 0 rfl E_m0 29 rfl (by decide) pp73 dX13_remember_143 ?_
  refine lv_iload_n hx hb dX13_remember_146 rfl (lv_at hl 0 rfl) ?_
  refine lv_iinc (v := 53) (lv' := [(1, .int 53), (2, .int 6), (0, .ref m0)]) hx hb dX13_remember_147 hl (k := 0) rfl (by decide) (by decide) rfl (fun ls hl => ?_)
  refine lv_aload_n hx hb dX13_remember_150 rfl (lv_at hl 2 rfl) ?_
  refine pq_get (own := RX13) (ci := 13) (C := RX13) (T := TX13) (N := 229) (k := 20) (v := .ref w14) hx hb hpp pi13 rfl hown hG hW 0 rfl E_m0 9 rfl (by decide) pp84 dX13_remember_151 ?_
  refine lv_iload_n hx hb dX13_remember_154 rfl (lv_at hl 1 rfl) ?_
  refine pq_iald (v := 0) hx hb hG hW 3 rfl (vp_in_iff.mpr ⟨by decide, by decide⟩) rfl dX13_remember_155 ?_
  refine pq_iast hx hb hG hW 1 rfl (vp_in_iff.mpr ⟨by decide, by decide⟩) dX13_remember_156 (fun H locs hW => ?_)
  have hW : pq_W D _ s.heap L f _ [(m0, .inr (13, F_m0)), (w59, .inl (cy 1, 80, .inl _)), (w13, .inl (cy 1, 8, .inl (fun _ => 0))), (w14, .inl (cy 1, 8, .inl (fun _ => 0))), (w15, .inl (cy 1, 8, .inl (fun _ => 0))), (w16, .inl (cy 1, 8, .inl (fun _ => 0))), (w17, .inl (cy 1, 8, .inl (fun _ => 0))), (w18, .inl (cy 1, 8, .inl (fun _ => 0))), (w19, .inl (cy 1, 8, .inl (fun _ => 0)))] H locs := hW
  refine lv_aload_n hx hb dX13_remember_157 rfl (lv_at hl 2 rfl) ?_
  refine pq_get (own := RX13) (ci := 13) (C := RX13) (T := TX13) (N := 229) (k := 97) (v := .ref w59) hx hb hpp pi13 rfl hown hG hW 0 rfl E_m0 29 rfl (by decide) pp73 dX13_remember_158 ?_
  refine lv_iload_n hx hb dX13_remember_161 rfl (lv_at hl 0 rfl) ?_
  refine lv_iinc (v := 54) (lv' := [(1, .int 54), (2, .int 6), (0, .ref m0)]) hx hb dX13_remember_162 hl (k := 0) rfl (by decide) (by decide) rfl (fun ls hl => ?_)
  refine lv_aload_n hx hb dX13_remember_165 rfl (lv_at hl 2 rfl) ?_
  refine pq_get (own := RX13) (ci := 13) (C := RX13) (T := TX13) (N := 229) (k := 21) (v := .ref w15) hx hb hpp pi13 rfl hown hG hW 0 rfl E_m0 10 rfl (by decide) pp85 dX13_remember_166 ?_
  refine lv_iload_n hx hb dX13_remember_169 rfl (lv_at hl 1 rfl) ?_
  refine pq_iald (v := 0) hx hb hG hW 4 rfl (vp_in_iff.mpr ⟨by decide, by decide⟩) rfl dX13_remember_170 ?_
  refine pq_iast hx hb hG hW 1 rfl (vp_in_iff.mpr ⟨by decide, by decide⟩) dX13_remember_171 (fun H locs hW => ?_)
  have hW : pq_W D _ s.heap L f _ [(m0, .inr (13, F_m0)), (w59, .inl (cy 1, 80, .inl _)), (w13, .inl (cy 1, 8, .inl (fun _ => 0))), (w14, .inl (cy 1, 8, .inl (fun _ => 0))), (w15, .inl (cy 1, 8, .inl (fun _ => 0))), (w16, .inl (cy 1, 8, .inl (fun _ => 0))), (w17, .inl (cy 1, 8, .inl (fun _ => 0))), (w18, .inl (cy 1, 8, .inl (fun _ => 0))), (w19, .inl (cy 1, 8, .inl (fun _ => 0)))] H locs := hW
  refine lv_aload_n hx hb dX13_remember_172 rfl (lv_at hl 2 rfl) ?_
  refine pq_get (own := RX13) (ci := 13) (C := RX13) (T := TX13) (N := 229) (k := 97) (v := .ref w59) hx hb hpp pi13 rfl hown hG hW 0 rfl E_m0 29 rfl (by decide) pp73 dX13_remember_173 ?_
  refine lv_iload_n hx hb dX13_remember_176 rfl (lv_at hl 0 rfl) ?_
  refine lv_iinc (v := 55) (lv' := [(1, .int 55), (2, .int 6), (0, .ref m0)]) hx hb dX13_remember_177 hl (k := 0) rfl (by decide) (by decide) rfl (fun ls hl => ?_)
  refine lv_aload_n hx hb dX13_remember_180 rfl (lv_at hl 2 rfl) ?_
  refine pq_get (own := RX13) (ci := 13) (C := RX13) (T := TX13) (N := 229) (k := 22) (v := .ref w16) hx hb hpp pi13 rfl hown hG hW 0 rfl E_m0 11 rfl (by decide) pp86 dX13_remember_181 ?_
  refine lv_iload_n hx hb dX13_remember_184 rfl (lv_at hl 1 rfl) ?_
  refine pq_iald (v := 0) hx hb hG hW 5 rfl (vp_in_iff.mpr ⟨by decide, by decide⟩) rfl dX13_remember_185 ?_
  refine pq_iast hx hb hG hW 1 rfl (vp_in_iff.mpr ⟨by decide, by decide⟩) dX13_remember_186 (fun H locs hW => ?_)
  have hW : pq_W D _ s.heap L f _ [(m0, .inr (13, F_m0)), (w59, .inl (cy 1, 80, .inl _)), (w13, .inl (cy 1, 8, .inl (fun _ => 0))), (w14, .inl (cy 1, 8, .inl (fun _ => 0))), (w15, .inl (cy 1, 8, .inl (fun _ => 0))), (w16, .inl (cy 1, 8, .inl (fun _ => 0))), (w17, .inl (cy 1, 8, .inl (fun _ => 0))), (w18, .inl (cy 1, 8, .inl (fun _ => 0))), (w19, .inl (cy 1, 8, .inl (fun _ => 0)))] H locs := hW
  refine lv_aload_n hx hb dX13_remember_187 rfl (lv_at hl 2 rfl) ?_
  refine pq_get (own := RX13) (ci := 13) (C := RX13) (T := TX13) (N := 229) (k := 97) (v := .ref w59) hx hb hpp pi13 rfl hown hG hW 0 rfl E_m0 29 rfl (by decide) pp73 dX13_remember_188 ?_
  refine lv_iload_n hx hb dX13_remember_191 rfl (lv_at hl 0 rfl) ?_
  refine lv_iinc (v := 56) (lv' := [(1, .int 56), (2, .int 6), (0, .ref m0)]) hx hb dX13_remember_192 hl (k := 0) rfl (by decide) (by decide) rfl (fun ls hl => ?_)
  refine lv_aload_n hx hb dX13_remember_195 rfl (lv_at hl 2 rfl) ?_
  refine pq_get (own := RX13) (ci := 13) (C := RX13) (T := TX13) (N := 229) (k := 23) (v := .ref w17) hx hb hpp pi13 rfl hown hG hW 0 rfl E_m0 12 rfl (by decide) pp87 dX13_remember_196 ?_
  refine lv_iload_n hx hb dX13_remember_199 rfl (lv_at hl 1 rfl) ?_
  refine pq_iald (v := 0) hx hb hG hW 6 rfl (vp_in_iff.mpr ⟨by decide, by decide⟩) rfl dX13_remember_200 ?_
  refine pq_iast hx hb hG hW 1 rfl (vp_in_iff.mpr ⟨by decide, by decide⟩) dX13_remember_201 (fun H locs hW => ?_)
  have hW : pq_W D _ s.heap L f _ [(m0, .inr (13, F_m0)), (w59, .inl (cy 1, 80, .inl _)), (w13, .inl (cy 1, 8, .inl (fun _ => 0))), (w14, .inl (cy 1, 8, .inl (fun _ => 0))), (w15, .inl (cy 1, 8, .inl (fun _ => 0))), (w16, .inl (cy 1, 8, .inl (fun _ => 0))), (w17, .inl (cy 1, 8, .inl (fun _ => 0))), (w18, .inl (cy 1, 8, .inl (fun _ => 0))), (w19, .inl (cy 1, 8, .inl (fun _ => 0)))] H locs := hW
  refine lv_aload_n hx hb dX13_remember_202 rfl (lv_at hl 2 rfl) ?_
  refine pq_get (own := RX13) (ci := 13) (C := RX13) (T := TX13) (N := 229) (k := 97) (v := .ref w59) hx hb hpp pi13 rfl hown hG hW 0 rfl E_m0 29 rfl (by decide) pp73 dX13_remember_203 ?_
  refine lv_iload_n hx hb dX13_remember_206 rfl (lv_at hl 0 rfl) ?_
  refine lv_iinc (v := 57) (lv' := [(1, .int 57), (2, .int 6), (0, .ref m0)]) hx hb dX13_remember_207 hl (k := 0) rfl (by decide) (by decide) rfl (fun ls hl => ?_)
  refine lv_aload_n hx hb dX13_remember_210 rfl (lv_at hl 2 rfl) ?_
  refine pq_get (own := RX13) (ci := 13) (C := RX13) (T := TX13) (N := 229) (k := 24) (v := .ref w18) hx hb hpp pi13 rfl hown hG hW 0 rfl E_m0 13 rfl (by decide) pp88 dX13_remember_211 ?_
  refine lv_iload_n hx hb dX13_remember_214 rfl (lv_at hl 1 rfl) ?_
  refine pq_iald (v := 0) hx hb hG hW 7 rfl (vp_in_iff.mpr ⟨by decide, by decide⟩) rfl dX13_remember_215 ?_
  refine pq_iast hx hb hG hW 1 rfl (vp_in_iff.mpr ⟨by decide, by decide⟩) dX13_remember_216 (fun H locs hW => ?_)
  have hW : pq_W D _ s.heap L f _ [(m0, .inr (13, F_m0)), (w59, .inl (cy 1, 80, .inl _)), (w13, .inl (cy 1, 8, .inl (fun _ => 0))), (w14, .inl (cy 1, 8, .inl (fun _ => 0))), (w15, .inl (cy 1, 8, .inl (fun _ => 0))), (w16, .inl (cy 1, 8, .inl (fun _ => 0))), (w17, .inl (cy 1, 8, .inl (fun _ => 0))), (w18, .inl (cy 1, 8, .inl (fun _ => 0))), (w19, .inl (cy 1, 8, .inl (fun _ => 0)))] H locs := hW
  refine lv_aload_n hx hb dX13_remember_217 rfl (lv_at hl 2 rfl) ?_
  refine pq_get (own := RX13) (ci := 13) (C := RX13) (T := TX13) (N := 229) (k := 97) (v := .ref w59) hx hb hpp pi13 rfl hown hG hW 0 rfl E_m0 29 rfl (by decide) pp73 dX13_remember_218 ?_
  refine lv_iload_n hx hb dX13_remember_221 rfl (lv_at hl 0 rfl) ?_
  refine lv_iinc (v := 58) (lv' := [(1, .int 58), (2, .int 6), (0, .ref m0)]) hx hb dX13_remember_222 hl (k := 0) rfl (by decide) (by decide) rfl (fun ls hl => ?_)
  refine lv_aload_n hx hb dX13_remember_225 rfl (lv_at hl 2 rfl) ?_
  refine pq_get (own := RX13) (ci := 13) (C := RX13) (T := TX13) (N := 229) (k := 25) (v := .ref w19) hx hb hpp pi13 rfl hown hG hW 0 rfl E_m0 14 rfl (by decide) pp89 dX13_remember_226 ?_
  refine lv_iload_n hx hb dX13_remember_229 rfl (lv_at hl 1 rfl) ?_
  refine pq_iald (v := 0) hx hb hG hW 8 rfl (vp_in_iff.mpr ⟨by decide, by decide⟩) rfl dX13_remember_230 ?_
  refine pq_iast hx hb hG hW 1 rfl (vp_in_iff.mpr ⟨by decide, by decide⟩) dX13_remember_231 (fun H locs hW => ?_)
  have hW : pq_W D _ s.heap L f _ [(m0, .inr (13, F_m0)), (w59, .inl (cy 1, 80, .inl _)), (w13, .inl (cy 1, 8, .inl (fun _ => 0))), (w14, .inl (cy 1, 8, .inl (fun _ => 0))), (w15, .inl (cy 1, 8, .inl (fun _ => 0))), (w16, .inl (cy 1, 8, .inl (fun _ => 0))), (w17, .inl (cy 1, 8, .inl (fun _ => 0))), (w18, .inl (cy 1, 8, .inl (fun _ => 0))), (w19, .inl (cy 1, 8, .inl (fun _ => 0)))] H locs := hW
  refine lv_iinc (v := 7) (lv' := [(2, .int 7), (1, .int 58), (0, .ref m0)]) hx hb dX13_remember_232 hl (k := 1) rfl (by decide) (by decide) rfl (fun ls hl => ?_)
  refine lv_goto (tgt := 121) hx hb dX13_remember_235 (by decide) ?_
  refine lv_iload_n hx hb dX13_remember_121 rfl (lv_at hl 0 rfl) ?_
  refine lv_bipush (v := 8) hx hb dX13_remember_122 (by decide) ?_
  refine lv_icmp_ge (tgt := 238) hx hb dX13_remember_124 (by decide) (fun c9 => absurd c9 (by decide)) (fun _ => ?_)
  refine lv_aload_n hx hb dX13_remember_127 rfl (lv_at hl 2 rfl) ?_
  refine pq_get (own := RX13) (ci := 13) (C := RX13) (T := TX13) (N := 229) (k := 97) (v := .ref w59) hx hb hpp pi13 rfl hown hG hW 0 rfl E_m0 29 rfl (by decide) pp73 dX13_remember_128 ?_
  refine lv_iload_n hx hb dX13_remember_131 rfl (lv_at hl 1 rfl) ?_
  refine lv_iinc (v := 59) (lv' := [(1, .int 59), (2, .int 7), (0, .ref m0)]) hx hb dX13_remember_132 hl (k := 1) rfl (by decide) (by decide) rfl (fun ls hl => ?_)
  refine lv_aload_n hx hb dX13_remember_135 rfl (lv_at hl 2 rfl) ?_
  refine pq_get (own := RX13) (ci := 13) (C := RX13) (T := TX13) (N := 229) (k := 19) (v := .ref w13) hx hb hpp pi13 rfl hown hG hW 0 rfl E_m0 8 rfl (by decide) pp83 dX13_remember_136 ?_
  refine lv_iload_n hx hb dX13_remember_139 rfl (lv_at hl 1 rfl) ?_
  refine pq_iald (v := 0) hx hb hG hW 2 rfl (vp_in_iff.mpr ⟨by decide, by decide⟩) rfl dX13_remember_140 ?_
  refine pq_iast hx hb hG hW 1 rfl (vp_in_iff.mpr ⟨by decide, by decide⟩) dX13_remember_141 (fun H locs hW => ?_)
  have hW : pq_W D _ s.heap L f _ [(m0, .inr (13, F_m0)), (w59, .inl (cy 1, 80, .inl _)), (w13, .inl (cy 1, 8, .inl (fun _ => 0))), (w14, .inl (cy 1, 8, .inl (fun _ => 0))), (w15, .inl (cy 1, 8, .inl (fun _ => 0))), (w16, .inl (cy 1, 8, .inl (fun _ => 0))), (w17, .inl (cy 1, 8, .inl (fun _ => 0))), (w18, .inl (cy 1, 8, .inl (fun _ => 0))), (w19, .inl (cy 1, 8, .inl (fun _ => 0)))] H locs := hW
  refine lv_aload_n hx hb dX13_remember_142 rfl (lv_at hl 2 rfl) ?_
  refine pq_get (own := RX13) (ci := 13) (C := RX13) (T := TX13) (N := 229) (k := 97) (v := .ref w59) hx hb hpp pi13 rfl hown hG hW 0 rfl E_m0 29 rfl (by decide) pp73 dX13_remember_143 ?_
  refine lv_iload_n hx hb dX13_remember_146 rfl (lv_at hl 0 rfl) ?_
  refine lv_iinc (v := 60) (lv' := [(1, .int 60), (2, .int 7), (0, .ref m0)]) hx hb dX13_remember_147 hl (k := 0) rfl (by decide) (by decide) rfl (fun ls hl => ?_)
  refine lv_aload_n hx hb dX13_remember_150 rfl (lv_at hl 2 rfl) ?_
  refine pq_get (own := RX13) (ci := 13) (C := RX13) (T := TX13) (N := 229) (k := 20) (v := .ref w14) hx hb hpp pi13 rfl hown hG hW 0 rfl E_m0 9 rfl (by decide) pp84 dX13_remember_151 ?_
  refine lv_iload_n hx hb dX13_remember_154 rfl (lv_at hl 1 rfl) ?_
  refine pq_iald (v := 0) hx hb hG hW 3 rfl (vp_in_iff.mpr ⟨by decide, by decide⟩) rfl dX13_remember_155 ?_
  refine pq_iast hx hb hG hW 1 rfl (vp_in_iff.mpr ⟨by decide, by decide⟩) dX13_remember_156 (fun H locs hW => ?_)
  have hW : pq_W D _ s.heap L f _ [(m0, .inr (13, F_m0)), (w59, .inl (cy 1, 80, .inl _)), (w13, .inl (cy 1, 8, .inl (fun _ => 0))), (w14, .inl (cy 1, 8, .inl (fun _ => 0))), (w15, .inl (cy 1, 8, .inl (fun _ => 0))), (w16, .inl (cy 1, 8, .inl (fun _ => 0))), (w17, .inl (cy 1, 8, .inl (fun _ => 0))), (w18, .inl (cy 1, 8, .inl (fun _ => 0))), (w19, .inl (cy 1, 8, .inl (fun _ => 0)))] H locs := hW
  refine lv_aload_n hx hb dX13_remember_157 rfl (lv_at hl 2 rfl) ?_
  refine pq_get (own := RX13) (ci := 13) (C := RX13) (T := TX13) (N := 229) (k := 97) (v := .ref w59) hx hb hpp pi13 rfl hown hG hW 0 rfl E_m0 29 rfl (by decide) pp73 dX13_remember_158 ?_
  refine lv_iload_n hx hb dX13_remember_161 rfl (lv_at hl 0 rfl) ?_
  refine lv_iinc (v := 61) (lv' := [(1, .int 61), (2, .int 7), (0, .ref m0)]) hx hb dX13_remember_162 hl (k := 0) rfl (by decide) (by decide) rfl (fun ls hl => ?_)
  refine lv_aload_n hx hb dX13_remember_165 rfl (lv_at hl 2 rfl) ?_
  refine pq_get (own := RX13) (ci := 13) (C := RX13) (T := TX13) (N := 229) (k := 21) (v := .ref w15) hx hb hpp pi13 rfl hown hG hW 0 rfl E_m0 10 rfl (by decide) pp85 dX13_remember_166 ?_
  refine lv_iload_n hx hb dX13_remember_169 rfl (lv_at hl 1 rfl) ?_
  refine pq_iald (v := 0) hx hb hG hW 4 rfl (vp_in_iff.mpr ⟨by decide, by decide⟩) rfl dX13_remember_170 ?_
  refine pq_iast hx hb hG hW 1 rfl (vp_in_iff.mpr ⟨by decide, by decide⟩) dX13_remember_171 (fun H locs hW => ?_)
  have hW : pq_W D _ s.heap L f _ [(m0, .inr (13, F_m0)), (w59, .inl (cy 1, 80, .inl _)), (w13, .inl (cy 1, 8, .inl (fun _ => 0))), (w14, .inl (cy 1, 8, .inl (fun _ => 0))), (w15, .inl (cy 1, 8, .inl (fun _ => 0))), (w16, .inl (cy 1, 8, .inl (fun _ => 0))), (w17, .inl (cy 1, 8, .inl (fun _ => 0))), (w18, .inl (cy 1, 8, .inl (fun _ => 0))), (w19, .inl (cy 1, 8, .inl (fun _ => 0)))] H locs := hW
  refine lv_aload_n hx hb dX13_remember_172 rfl (lv_at hl 2 rfl) ?_
  refine pq_get (own := RX13) (ci := 13) (C := RX13) (T := TX13) (N := 229) (k := 97) (v := .ref w59) hx hb hpp pi13 rfl hown hG hW 0 rfl E_m0 29 rfl (by decide) pp73 dX13_remember_173 ?_
  refine lv_iload_n hx hb dX13_remember_176 rfl (lv_at hl 0 rfl) ?_
  refine lv_iinc (v := 62) (lv' := [(1, .int 62), (2, .int 7), (0, .ref m0)]) hx hb dX13_remember_177 hl (k := 0) rfl (by decide) (by decide) rfl (fun ls hl => ?_)
  refine lv_aload_n hx hb dX13_remember_180 rfl (lv_at hl 2 rfl) ?_
  refine pq_get (own := RX13) (ci := 13) (C := RX13) (T := TX13) (N := 229) (k := 22) (v := .ref w16) hx hb hpp pi13 rfl hown hG hW 0 rfl E_m0 11 rfl (by decide) pp86 dX13_remember_181 ?_
  refine lv_iload_n hx hb dX13_remember_184 rfl (lv_at hl 1 rfl) ?_
  refine pq_iald (v := 0) hx hb hG hW 5 rfl (vp_in_iff.mpr ⟨by decide, by decide⟩) rfl dX13_remember_185 ?_
  refine pq_iast hx hb hG hW 1 rfl (vp_in_iff.mpr ⟨by decide, by decide⟩) dX13_remember_186 (fun H locs hW => ?_)
  have hW : pq_W D _ s.heap L f _ [(m0, .inr (13, F_m0)), (w59, .inl (cy 1, 80, .inl _)), (w13, .inl (cy 1, 8, .inl (fun _ => 0))), (w14, .inl (cy 1, 8, .inl (fun _ => 0))), (w15, .inl (cy 1, 8, .inl (fun _ => 0))), (w16, .inl (cy 1, 8, .inl (fun _ => 0))), (w17, .inl (cy 1, 8, .inl (fun _ => 0))), (w18, .inl (cy 1, 8, .inl (fun _ => 0))), (w19, .inl (cy 1, 8, .inl (fun _ => 0)))] H locs := hW
  refine lv_aload_n hx hb dX13_remember_187 rfl (lv_at hl 2 rfl) ?_
  refine pq_get (own := RX13) (ci := 13) (C := RX13) (T := TX13) (N := 229) (k := 97) (v := .ref w59) hx hb hpp pi13 rfl hown hG hW 0 rfl E_m0 29 rfl (by decide) pp73 dX13_remember_188 ?_
  refine lv_iload_n hx hb dX13_remember_191 rfl (lv_at hl 0 rfl) ?_
  refine lv_iinc (v := 63) (lv' := [(1, .int 63), (2, .int 7), (0, .ref m0)]) hx hb dX13_remember_192 hl (k := 0) rfl (by decide) (by decide) rfl (fun ls hl => ?_)
  refine lv_aload_n hx hb dX13_remember_195 rfl (lv_at hl 2 rfl) ?_
  refine pq_get (own := RX13) (ci := 13) (C := RX13) (T := TX13) (N := 229) (k := 23) (v := .ref w17) hx hb hpp pi13 rfl hown hG hW 0 rfl E_m0 12 rfl (by decide) pp87 dX13_remember_196 ?_
  refine lv_iload_n hx hb dX13_remember_199 rfl (lv_at hl 1 rfl) ?_
  refine pq_iald (v := 0) hx hb hG hW 6 rfl (vp_in_iff.mpr ⟨by decide, by decide⟩) rfl dX13_remember_200 ?_
  refine pq_iast hx hb hG hW 1 rfl (vp_in_iff.mpr ⟨by decide, by decide⟩) dX13_remember_201 (fun H locs hW => ?_)
  have hW : pq_W D _ s.heap L f _ [(m0, .inr (13, F_m0)), (w59, .inl (cy 1, 80, .inl _)), (w13, .inl (cy 1, 8, .inl (fun _ => 0))), (w14, .inl (cy 1, 8, .inl (fun _ => 0))), (w15, .inl (cy 1, 8, .inl (fun _ => 0))), (w16, .inl (cy 1, 8, .inl (fun _ => 0))), (w17, .inl (cy 1, 8, .inl (fun _ => 0))), (w18, .inl (cy 1, 8, .inl (fun _ => 0))), (w19, .inl (cy 1, 8, .inl (fun _ => 0)))] H locs := hW
  refine lv_aload_n hx hb dX13_remember_202 rfl (lv_at hl 2 rfl) ?_
  refine pq_get (own := RX13) (ci := 13) (C := RX13) (T := TX13) (N := 229) (k := 97) (v := .ref w59) hx hb hpp pi13 rfl hown hG hW 0 rfl E_m0 29 rfl (by decide) pp73 dX13_remember_203 ?_
  refine lv_iload_n hx hb dX13_remember_206 rfl (lv_at hl 0 rfl) ?_
  refine lv_iinc (v := 64) (lv' := [(1, .int 64), (2, .int 7), (0, .ref m0)]) hx hb dX13_remember_207 hl (k := 0) rfl (by decide) (by decide) rfl (fun ls hl => ?_)
  refine lv_aload_n hx hb dX13_remember_210 rfl (lv_at hl 2 rfl) ?_
  refine pq_get (own := RX13) (ci := 13) (C := RX13) (T := TX13) (N := 229) (k := 24) (v := .ref w18) hx hb hpp pi13 rfl hown hG hW 0 rfl E_m0 13 rfl (by decide) pp88 dX13_remember_211 ?_
  refine lv_iload_n hx hb dX13_remember_214 rfl (lv_at hl 1 rfl) ?_
  refine pq_iald (v := 0) hx hb hG hW 7 rfl (vp_in_iff.mpr ⟨by decide, by decide⟩) rfl dX13_remember_215 ?_
  refine pq_iast hx hb hG hW 1 rfl (vp_in_iff.mpr ⟨by decide, by decide⟩) dX13_remember_216 (fun H locs hW => ?_)
  have hW : pq_W D _ s.heap L f _ [(m0, .inr (13, F_m0)), (w59, .inl (cy 1, 80, .inl _)), (w13, .inl (cy 1, 8, .inl (fun _ => 0))), (w14, .inl (cy 1, 8, .inl (fun _ => 0))), (w15, .inl (cy 1, 8, .inl (fun _ => 0))), (w16, .inl (cy 1, 8, .inl (fun _ => 0))), (w17, .inl (cy 1, 8, .inl (fun _ => 0))), (w18, .inl (cy 1, 8, .inl (fun _ => 0))), (w19, .inl (cy 1, 8, .inl (fun _ => 0)))] H locs := hW
  refine lv_aload_n hx hb dX13_remember_217 rfl (lv_at hl 2 rfl) ?_
  refine pq_get (own := RX13) (ci := 13) (C := RX13) (T := TX13) (N := 229) (k := 97) (v := .ref w59) hx hb hpp pi13 rfl hown hG hW 0 rfl E_m0 29 rfl (by decide) pp73 dX13_remember_218 ?_
  refine lv_iload_n hx hb dX13_remember_221 rfl (lv_at hl 0 rfl) ?_
  refine lv_iinc (v := 65) (lv' := [(1, .int 65), (2, .int 7), (0, .ref m0)]) hx hb dX13_remember_222 hl (k := 0) rfl (by decide) (by decide) rfl (fun ls hl => ?_)
  refine lv_aload_n hx hb dX13_remember_225 rfl (lv_at hl 2 rfl) ?_
  refine pq_get (own := RX13) (ci := 13) (C := RX13) (T := TX13) (N := 229) (k := 25) (v := .ref w19) hx hb hpp pi13 rfl hown hG hW 0 rfl E_m0 14 rfl (by decide) pp89 dX13_remember_226 ?_
  refine lv_iload_n hx hb dX13_remember_229 rfl (lv_at hl 1 rfl) ?_
  refine pq_iald (v := 0) hx hb hG hW 8 rfl (vp_in_iff.mpr ⟨by decide, by decide⟩) rfl dX13_remember_230 ?_
  refine pq_iast hx hb hG hW 1 rfl (vp_in_iff.mpr ⟨by decide, by decide⟩) dX13_remember_231 (fun H locs hW => ?_)
  have hW : pq_W D _ s.heap L f _ [(m0, .inr (13, F_m0)), (w59, .inl (cy 1, 80, .inl _)), (w13, .inl (cy 1, 8, .inl (fun _ => 0))), (w14, .inl (cy 1, 8, .inl (fun _ => 0))), (w15, .inl (cy 1, 8, .inl (fun _ => 0))), (w16, .inl (cy 1, 8, .inl (fun _ => 0))), (w17, .inl (cy 1, 8, .inl (fun _ => 0))), (w18, .inl (cy 1, 8, .inl (fun _ => 0))), (w19, .inl (cy 1, 8, .inl (fun _ => 0)))] H locs := hW
  refine lv_iinc (v := 8) (lv' := [(2, .int 8), (1, .int 65), (0, .ref m0)]) hx hb dX13_remember_232 hl (k := 1) rfl (by decide) (by decide) rfl (fun ls hl => ?_)
  refine lv_goto (tgt := 121) hx hb dX13_remember_235 (by decide) ?_
  refine lv_iload_n hx hb dX13_remember_121 rfl (lv_at hl 0 rfl) ?_
  refine lv_bipush (v := 8) hx hb dX13_remember_122 (by decide) ?_
  refine lv_icmp_ge (tgt := 238) hx hb dX13_remember_124 (by decide) (fun _ => ?_) (fun c9 => absurd c9 (by decide))
  refine lv_aload_n hx hb dX13_remember_238 rfl (lv_at hl 2 rfl) ?_
  refine lv_iconst (v := 0) hx hb dX13_remember_239 (by decide) ?_
  refine pq_put (own := RX13) (ci := 13) (C := RX13) (T := TX13) (N := 229) (kv' := [(0, .int 0), (1, .int 0), (2, .int 0), (3, .int 0), (4, .int 0), (5, .int 0), (6, .int (-1)), (16, .ref w10), (19, .ref w13), (20, .ref w14), (21, .ref w15), (22, .ref w16), (23, .ref w17), (24, .ref w18), (25, .ref w19), (42, .int 0), (59, .int 0), (64, .int 0), (65, .ref w56), (68, .int 0), (69, .int 0), (70, .int 0), (71, .int 0), (72, .int 0), (73, .int 0), (74, .int 0), (75, .long 0), (76, .int 0), (79, .int 0), (97, .ref w59), (99, .int 0), (100, .int 0), (132, .int 0), (136, .int 0), (179, .int 0), (180, .int 0), (181, .long 0), (186, .int 0), (188, .int 0), (190, .ref w115), (201, .int 0), (206, .int 0), (211, .int 0)]) hx hb hpp pi13 tyX13 tyX13_ok nmX13 rfl hown hG hW 0 rfl E_m0 99 (by decide) rfl rfl rfl rfl pp90 dX13_remember_240 (fun F_m0 H locs hW E_m0 => ?_)
  have hW : pq_W D _ s.heap L f _ [(m0, .inr (13, F_m0)), (w59, .inl (cy 1, 80, .inl _)), (w13, .inl (cy 1, 8, .inl (fun _ => 0))), (w14, .inl (cy 1, 8, .inl (fun _ => 0))), (w15, .inl (cy 1, 8, .inl (fun _ => 0))), (w16, .inl (cy 1, 8, .inl (fun _ => 0))), (w17, .inl (cy 1, 8, .inl (fun _ => 0))), (w18, .inl (cy 1, 8, .inl (fun _ => 0))), (w19, .inl (cy 1, 8, .inl (fun _ => 0)))] H locs := hW
  exact pq_vret hx hb hr hlocks hW ⟨_, _, rfl, E_m0⟩ dX13_remember_243
set_option maxHeartbeats 4000000 in
set_option maxRecDepth 100000 in
/-- TongueHouseModel.next on a new object -/
theorem c_X13_next (l : Launch) (D : va_G) (cy : Nat → ClassId) (sz : Nat) (L : List Nat) (f : Nat → va_E) {w10 w13 w14 w15 w16 w17 w18 w19 w56 w59 w115 : Nat} (m0 : Nat) (F_m0 : List Value) (hC : pq_C L f [(m0, .inr (13, F_m0))]) (E_m0 : pq_E 229 F_m0 [(0, .int 0), (1, .int 0), (2, .int 0), (3, .int 0), (4, .int 0), (5, .int 0), (6, .int (-1)), (16, .ref w10), (19, .ref w13), (20, .ref w14), (21, .ref w15), (22, .ref w16), (23, .ref w17), (24, .ref w18), (25, .ref w19), (42, .int 0), (59, .int 0), (64, .int 0), (65, .ref w56), (68, .int 0), (69, .int 0), (70, .int 0), (71, .int 0), (72, .int 0), (73, .int 0), (74, .int 0), (75, .long 0), (76, .int 0), (79, .int 0), (97, .ref w59), (99, .int 0), (100, .int 0), (132, .int 0), (136, .int 0), (179, .int 0), (180, .int 0), (181, .long 0), (186, .int 0), (188, .int 0), (190, .ref w115), (201, .int 0), (206, .int 0), (211, .int 0)]) : Met l yX13_next (Cond.code yX13_next cX13_next 2 none :: pp_ws) ({ frames := 0, cells := 0, slots := 0, locals := 0 }) (pw_Pc D cy [.ref m0] sz L f) (pq_Qv D sz L f [m0] (fun cs1 => (∃ (F_m0 : List Value), cs1 = [(m0, .inr (13, F_m0))] ∧ pq_E 229 F_m0 [(0, .int 0), (1, .int 0), (2, .int 0), (3, .int 0), (4, .int 0), (5, .int 0), (6, .int (-1)), (16, .ref w10), (19, .ref w13), (20, .ref w14), (21, .ref w15), (22, .ref w16), (23, .ref w17), (24, .ref w18), (25, .ref w19), (42, .int 0), (59, .int 0), (64, .int 0), (65, .ref w56), (68, .int 0), (69, .int 0), (70, .int 0), (71, .int 0), (72, .int 0), (73, .int 0), (74, .int 0), (75, .long 0), (76, .int 0), (79, .int 0), (97, .ref w59), (99, .int 0), (100, .int 0), (132, .int 0), (136, .int 0), (179, .int 0), (180, .int 0), (181, .long 0), (186, .int 0), (188, .int 0), (190, .ref w115), (201, .int 0), (206, .int 0), (211, .int 0)]))) 0 0 (pw_A L f sz) := by
  refine Met.ofW (cc := cX13_next) (maxL := 2) (ret := none) (by decide) rfl ?_
  intro p e s m args below meth c s₁ B hml hv
  obtain ⟨rfl, hsz, hG, hP, hD0⟩ := hv
  have hx := B.exec
  have hb := B.bytes
  have hr := B.returns
  have hts := atoms_spec (ws := Cond.code yX13_next cX13_next 2 none :: pp_ws) B.pre
  have hpp := fun (w : Cond) (h : w ∈ pp_ws) => hts w (List.mem_cons_of_mem _ h)
  have hown : s.vm.findClass RX13 = some m.cls := findClass_of_methodNamed B.named
  have hlocks := B.notSynchronized
  have hw := pw_start (cy := cy) hsz hP hD0
  have hW := pq_start (as := [m0]) hw hC rfl
  have hl := lv_entry ([.ref m0]) (n := 2) (Nat.le_of_ble_eq_true rfl)
  rw [lg_entry_eq]
  generalize (lg_sl ([.ref m0]) ++ List.replicate (2 - (lg_sl ([.ref m0])).length) Slot.unset).toArray = ls at hl ⊢
  have hl : lv_has ls 2 [(0, .ref m0)] := hl
  refine lv_aload_n hx hb dX13_next_0 rfl (lv_at hl 0 rfl) ?_
  refine pq_get (own := RX13) (ci := 13) (C := RX13) (T := TX13) (N := 229) (k := 73) (v := .int 0) hx hb hpp pi13 rfl hown hG hW 0 rfl E_m0 24 rfl (by decide) pp95 dX13_next_1 ?_
  refine lv_istore_n (lv' := [(1, .int 0), (0, .ref m0)]) hx hb dX13_next_4 rfl hl (by decide) rfl (fun ls hl => ?_)
  refine lv_iload_n hx hb dX13_next_5 rfl (lv_at hl 0 rfl) ?_
  refine lv_aload_n hx hb dX13_next_6 rfl (lv_at hl 1 rfl) ?_
  refine pq_get (own := RX13) (ci := 13) (C := RX13) (T := TX13) (N := 229) (k := 69) (v := .int 0) hx hb hpp pi13 rfl hown hG hW 0 rfl E_m0 20 rfl (by decide) pp68 dX13_next_7 ?_
  refine lv_icmp_ge (tgt := 30) hx hb dX13_next_10 (by decide) (fun _ => ?_) (fun c9 => absurd c9 (by decide))
  refine lv_aload_n hx hb dX13_next_30 rfl (lv_at hl 1 rfl) ?_
  refine lv_iload_n hx hb dX13_next_31 rfl (lv_at hl 0 rfl) ?_
  refine pq_put (own := RX13) (ci := 13) (C := RX13) (T := TX13) (N := 229) (kv' := [(0, .int 0), (1, .int 0), (2, .int 0), (3, .int 0), (4, .int 0), (5, .int 0), (6, .int (-1)), (16, .ref w10), (19, .ref w13), (20, .ref w14), (21, .ref w15), (22, .ref w16), (23, .ref w17), (24, .ref w18), (25, .ref w19), (42, .int 0), (59, .int 0), (64, .int 0), (65, .ref w56), (68, .int 0), (69, .int 0), (70, .int 0), (71, .int 0), (72, .int 0), (73, .int 0), (74, .int 0), (75, .long 0), (76, .int 0), (79, .int 0), (97, .ref w59), (99, .int 0), (100, .int 0), (132, .int 0), (136, .int 0), (179, .int 0), (180, .int 0), (181, .long 0), (186, .int 0), (188, .int 0), (190, .ref w115), (201, .int 0), (206, .int 0), (211, .int 0)]) hx hb hpp pi13 tyX13 tyX13_ok nmX13 rfl hown hG hW 0 rfl E_m0 72 (by decide) rfl rfl rfl rfl pp97 dX13_next_32 (fun F_m0 H locs hW E_m0 => ?_)
  have hW : pq_W D _ s.heap L f _ [(m0, .inr (13, F_m0))] H locs := hW
  refine lv_aload_n hx hb dX13_next_35 rfl (lv_at hl 1 rfl) ?_
  refine lv_iconst (v := 0) hx hb dX13_next_36 (by decide) ?_
  refine pq_put (own := RX13) (ci := 13) (C := RX13) (T := TX13) (N := 229) (kv' := [(0, .int 0), (1, .int 0), (2, .int 0), (3, .int 0), (4, .int 0), (5, .int 0), (6, .int (-1)), (16, .ref w10), (19, .ref w13), (20, .ref w14), (21, .ref w15), (22, .ref w16), (23, .ref w17), (24, .ref w18), (25, .ref w19), (42, .int 0), (59, .int 0), (64, .int 0), (65, .ref w56), (68, .int 0), (69, .int 0), (70, .int 0), (71, .int 0), (72, .int 0), (73, .int 0), (74, .int 0), (75, .long 0), (76, .int 0), (79, .int 0), (97, .ref w59), (99, .int 0), (100, .int 0), (132, .int 0), (136, .int 0), (179, .int 0), (180, .int 0), (181, .long 0), (186, .int 0), (188, .int 0), (190, .ref w115), (201, .int 0), (206, .int 0), (211, .int 0)]) hx hb hpp pi13 tyX13 tyX13_ok nmX13 rfl hown hG hW 0 rfl E_m0 74 (by decide) rfl rfl rfl rfl pp98 dX13_next_37 (fun F_m0 H locs hW E_m0 => ?_)
  have hW : pq_W D _ s.heap L f _ [(m0, .inr (13, F_m0))] H locs := hW
  refine lv_aload_n hx hb dX13_next_40 rfl (lv_at hl 1 rfl) ?_
  refine lv_lconst (v := 0) hx hb dX13_next_41 (by decide) ?_
  refine pq_put (own := RX13) (ci := 13) (C := RX13) (T := TX13) (N := 229) (kv' := [(0, .int 0), (1, .int 0), (2, .int 0), (3, .int 0), (4, .int 0), (5, .int 0), (6, .int (-1)), (16, .ref w10), (19, .ref w13), (20, .ref w14), (21, .ref w15), (22, .ref w16), (23, .ref w17), (24, .ref w18), (25, .ref w19), (42, .int 0), (59, .int 0), (64, .int 0), (65, .ref w56), (68, .int 0), (69, .int 0), (70, .int 0), (71, .int 0), (72, .int 0), (73, .int 0), (74, .int 0), (75, .long 0), (76, .int 0), (79, .int 0), (97, .ref w59), (99, .int 0), (100, .int 0), (132, .int 0), (136, .int 0), (179, .int 0), (180, .int 0), (181, .long 0), (186, .int 0), (188, .int 0), (190, .ref w115), (201, .int 0), (206, .int 0), (211, .int 0)]) hx hb hpp pi13 tyX13 tyX13_ok nmX13 rfl hown hG hW 0 rfl E_m0 75 (by decide) rfl rfl rfl rfl pp99 dX13_next_42 (fun F_m0 H locs hW E_m0 => ?_)
  have hW : pq_W D _ s.heap L f _ [(m0, .inr (13, F_m0))] H locs := hW
  refine lv_iload_n hx hb dX13_next_45 rfl (lv_at hl 0 rfl) ?_
  refine lv_aload_n hx hb dX13_next_46 rfl (lv_at hl 1 rfl) ?_
  refine pq_get (own := RX13) (ci := 13) (C := RX13) (T := TX13) (N := 229) (k := 69) (v := .int 0) hx hb hpp pi13 rfl hown hG hW 0 rfl E_m0 20 rfl (by decide) pp68 dX13_next_47 ?_
  refine lv_icmp_ne (tgt := 61) hx hb dX13_next_50 (by decide) (fun c9 => absurd c9 (by decide)) (fun _ => ?_)
  refine lv_aload_n hx hb dX13_next_53 rfl (lv_at hl 1 rfl) ?_
  refine lv_iconst (v := 0) hx hb dX13_next_54 (by decide) ?_
  refine pq_put (own := RX13) (ci := 13) (C := RX13) (T := TX13) (N := 229) (kv' := [(0, .int 0), (1, .int 0), (2, .int 0), (3, .int 0), (4, .int 0), (5, .int 0), (6, .int (-1)), (16, .ref w10), (19, .ref w13), (20, .ref w14), (21, .ref w15), (22, .ref w16), (23, .ref w17), (24, .ref w18), (25, .ref w19), (42, .int 0), (59, .int 0), (64, .int 0), (65, .ref w56), (68, .int 0), (69, .int 0), (70, .int 0), (71, .int 0), (72, .int 0), (73, .int 0), (74, .int 0), (75, .long 0), (76, .int 0), (79, .int 0), (97, .ref w59), (99, .int 0), (100, .int 0), (132, .int 0), (136, .int 0), (179, .int 0), (180, .int 0), (181, .long 0), (186, .int 0), (188, .int 0), (190, .ref w115), (201, .int 0), (206, .int 0), (211, .int 0)]) hx hb hpp pi13 tyX13 tyX13_ok nmX13 rfl hown hG hW 0 rfl E_m0 71 (by decide) rfl rfl rfl rfl pp100 dX13_next_55 (fun F_m0 H locs hW E_m0 => ?_)
  have hW : pq_W D _ s.heap L f _ [(m0, .inr (13, F_m0))] H locs := hW
  refine lv_goto (tgt := 309) hx hb dX13_next_58 (by decide) ?_
  refine lv_aload_n hx hb dX13_next_309 rfl (lv_at hl 1 rfl) ?_
  refine lv_iload_n hx hb dX13_next_310 rfl (lv_at hl 0 rfl) ?_
  refine pq_put (own := RX13) (ci := 13) (C := RX13) (T := TX13) (N := 229) (kv' := [(0, .int 0), (1, .int 0), (2, .int 0), (3, .int 0), (4, .int 0), (5, .int 0), (6, .int (-1)), (16, .ref w10), (19, .ref w13), (20, .ref w14), (21, .ref w15), (22, .ref w16), (23, .ref w17), (24, .ref w18), (25, .ref w19), (42, .int 0), (59, .int 0), (64, .int 0), (65, .ref w56), (68, .int 0), (69, .int 0), (70, .int 0), (71, .int 0), (72, .int 0), (73, .int 0), (74, .int 0), (75, .long 0), (76, .int 0), (79, .int 0), (97, .ref w59), (99, .int 0), (100, .int 0), (132, .int 0), (136, .int 0), (179, .int 0), (180, .int 0), (181, .long 0), (186, .int 0), (188, .int 0), (190, .ref w115), (201, .int 0), (206, .int 0), (211, .int 0)]) hx hb hpp pi13 tyX13 tyX13_ok nmX13 rfl hown hG hW 0 rfl E_m0 73 (by decide) rfl rfl rfl rfl pp95 dX13_next_311 (fun F_m0 H locs hW E_m0 => ?_)
  have hW : pq_W D _ s.heap L f _ [(m0, .inr (13, F_m0))] H locs := hW
  exact pq_vret hx hb hr hlocks hW ⟨_, rfl, E_m0⟩ dX13_next_314
set_option maxHeartbeats 4000000 in
set_option maxRecDepth 100000 in
/-- TongueHouseModel.module on a new object -/
theorem c_X13_module (l : Launch) (D : va_G) (cy : Nat → ClassId) (sz : Nat) (L : List Nat) (f : Nat → va_E) {w10 w56 w115 : Nat} (m0 w59 w13 w14 w15 w16 w17 w18 w19 : Nat) (F_m0 : List Value) (g_w59 : Nat → Int32) (hC : pq_C L f [(m0, .inr (13, F_m0)), (w59, .inl (cy 1, 80, .inl g_w59)), (w13, .inl (cy 1, 8, .inl (fun _ => 0))), (w14, .inl (cy 1, 8, .inl (fun _ => 0))), (w15, .inl (cy 1, 8, .inl (fun _ => 0))), (w16, .inl (cy 1, 8, .inl (fun _ => 0))), (w17, .inl (cy 1, 8, .inl (fun _ => 0))), (w18, .inl (cy 1, 8, .inl (fun _ => 0))), (w19, .inl (cy 1, 8, .inl (fun _ => 0)))]) (E_m0 : pq_E 229 F_m0 [(0, .int 0), (1, .int 0), (2, .int 0), (3, .int 0), (4, .int 0), (5, .int 0), (6, .int (-1)), (16, .ref w10), (19, .ref w13), (20, .ref w14), (21, .ref w15), (22, .ref w16), (23, .ref w17), (24, .ref w18), (25, .ref w19), (42, .int 0), (59, .int 0), (64, .int 0), (65, .ref w56), (68, .int 0), (69, .int 0), (70, .int 0), (71, .int 0), (72, .int 0), (73, .int 0), (74, .int 0), (75, .long 0), (76, .int 0), (79, .int 0), (97, .ref w59), (99, .int 0), (100, .int 0), (132, .int 0), (136, .int 0), (179, .int 0), (180, .int 0), (181, .long 0), (186, .int 0), (188, .int 0), (190, .ref w115), (201, .int 0), (206, .int 0), (211, .int 0)]) : Met l yX13_module (Cond.code yX13_module cX13_module 2 (some .int) :: pp_ws) ({ frames := 1, cells := 0, slots := 0, locals := 22 }) (pw_Pc D cy [.ref m0] sz L f) (pq_Qi D sz L f [m0, w59, w13, w14, w15, w16, w17, w18, w19] (fun r cs1 => ∃ (G : List Value) (t : Int32), cs1 = [(m0, .inr (13, G))] ∧ pq_E 229 G [(0, .int t)] ∧ ((t = 1 ∧ (False)) ∨ (t = 0 ∧ ¬ (False) ∧ r = 0)))) 0 0 (pw_A L f sz) := by
  refine Met.ofW (cc := cX13_module) (maxL := 2) (ret := (some .int)) (by decide) rfl ?_
  intro p e s m args below meth c s₁ B hml hv
  obtain ⟨rfl, hsz, hG, hP, hD0⟩ := hv
  have hx := B.exec
  have hb := B.bytes
  have hr := B.returns
  have hts := atoms_spec (ws := Cond.code yX13_module cX13_module 2 (some .int) :: pp_ws) B.pre
  have hpp := fun (w : Cond) (h : w ∈ pp_ws) => hts w (List.mem_cons_of_mem _ h)
  have hown : s.vm.findClass RX13 = some m.cls := findClass_of_methodNamed B.named
  have hlocks := B.notSynchronized
  have hw := pw_start (cy := cy) hsz hP hD0
  have hW := pq_start (as := [m0, w59, w13, w14, w15, w16, w17, w18, w19]) hw hC rfl
  have hl := lv_entry ([.ref m0]) (n := 2) (Nat.le_of_ble_eq_true rfl)
  rw [lg_entry_eq]
  generalize (lg_sl ([.ref m0]) ++ List.replicate (2 - (lg_sl ([.ref m0])).length) Slot.unset).toArray = ls at hl ⊢
  have hl : lv_has ls 2 [(0, .ref m0)] := hl
  refine lv_aload_n hx hb dX13_module_0 rfl (lv_at hl 0 rfl) ?_
  refine lv_iconst (v := 0) hx hb dX13_module_1 (by decide) ?_
  refine pq_put (own := RX13) (ci := 13) (C := RX13) (T := TX13) (N := 229) (kv' := [(0, .int 0), (1, .int 0), (2, .int 0), (3, .int 0), (4, .int 0), (5, .int 0), (6, .int (-1)), (16, .ref w10), (19, .ref w13), (20, .ref w14), (21, .ref w15), (22, .ref w16), (23, .ref w17), (24, .ref w18), (25, .ref w19), (42, .int 0), (59, .int 0), (64, .int 0), (65, .ref w56), (68, .int 0), (69, .int 0), (70, .int 0), (71, .int 0), (72, .int 0), (73, .int 0), (74, .int 0), (75, .long 0), (76, .int 0), (79, .int 0), (97, .ref w59), (99, .int 0), (100, .int 0), (132, .int 0), (136, .int 0), (179, .int 0), (180, .int 0), (181, .long 0), (186, .int 0), (188, .int 0), (190, .ref w115), (201, .int 0), (206, .int 0), (211, .int 0)]) hx hb hpp pi13 tyX13 tyX13_ok nmX13 rfl hown hG hW 0 rfl E_m0 0 (by decide) rfl rfl rfl rfl pp13 dX13_module_2 (fun F_m0 H locs hW E_m0 => ?_)
  have hW : pq_W D _ s.heap L f _ [(m0, .inr (13, F_m0)), (w59, .inl (cy 1, 80, .inl g_w59)), (w13, .inl (cy 1, 8, .inl (fun _ => 0))), (w14, .inl (cy 1, 8, .inl (fun _ => 0))), (w15, .inl (cy 1, 8, .inl (fun _ => 0))), (w16, .inl (cy 1, 8, .inl (fun _ => 0))), (w17, .inl (cy 1, 8, .inl (fun _ => 0))), (w18, .inl (cy 1, 8, .inl (fun _ => 0))), (w19, .inl (cy 1, 8, .inl (fun _ => 0)))] H locs := hW
  refine lv_aload_n hx hb dX13_module_5 rfl (lv_at hl 0 rfl) ?_
  refine pq_callv hW [0] [1, 2, 3, 4, 5, 6, 7, 8] (by decide) rfl rfl (fun f9 hw9 hC9 => va_runV (C := RX13) (As := []) (rest := []) ⟨hx, hb, hml, hown, hts⟩ (c_X13_reads l D cy _ L f9 m0 F_m0 hC9 E_m0) (cwV 0 hts (pp_gV pp70 pp69 pp71 pp72 pp20) rfl rfl rfl pd_X13_reads ⟨Nat.le_of_ble_eq_true rfl, Nat.le_of_ble_eq_true rfl⟩) (pq_preV hG hw9 hC9 (j := 0) rfl rfl) rfl rfl hl.1 rfl (lv_room (Nat.le_of_ble_eq_true rfl)) dX13_module_6 ⟨Nat.le_of_ble_eq_true rfl, Nat.le_of_ble_eq_true rfl⟩) (fun cs1 H locs hP hW => ?_)
  obtain ⟨F_m0, rfl, E_m0⟩ := hP
  have hW : pq_W D _ s.heap L f _ [(m0, .inr (13, F_m0)), (w59, .inl (cy 1, 80, .inl g_w59)), (w13, .inl (cy 1, 8, .inl (fun _ => 0))), (w14, .inl (cy 1, 8, .inl (fun _ => 0))), (w15, .inl (cy 1, 8, .inl (fun _ => 0))), (w16, .inl (cy 1, 8, .inl (fun _ => 0))), (w17, .inl (cy 1, 8, .inl (fun _ => 0))), (w18, .inl (cy 1, 8, .inl (fun _ => 0))), (w19, .inl (cy 1, 8, .inl (fun _ => 0)))] H locs := hW
  refine lv_aload_n hx hb dX13_module_9 rfl (lv_at hl 0 rfl) ?_
  refine pq_callv hW [0, 1, 2, 3, 4, 5, 6, 7, 8] [] (by decide) rfl rfl (fun f9 hw9 hC9 => va_runV (C := RX13) (As := []) (rest := []) ⟨hx, hb, hml, hown, hts⟩ (c_X13_remember l D cy _ L f9 m0 w59 w13 w14 w15 w16 w17 w18 w19 F_m0 _ hC9 E_m0) (cwV 0 hts (pp_gV pp92 pp91 pp93 pp94 pp20) rfl rfl rfl pd_X13_remember ⟨Nat.le_of_ble_eq_true rfl, Nat.le_of_ble_eq_true rfl⟩) (pq_preV hG hw9 hC9 (j := 0) rfl rfl) rfl rfl hl.1 rfl (lv_room (Nat.le_of_ble_eq_true rfl)) dX13_module_10 ⟨Nat.le_of_ble_eq_true rfl, Nat.le_of_ble_eq_true rfl⟩) (fun cs1 H locs hP hW => ?_)
  obtain ⟨F_m0, g_w59, rfl, E_m0⟩ := hP
  have hW : pq_W D _ s.heap L f _ [(m0, .inr (13, F_m0)), (w59, .inl (cy 1, 80, .inl _)), (w13, .inl (cy 1, 8, .inl (fun _ => 0))), (w14, .inl (cy 1, 8, .inl (fun _ => 0))), (w15, .inl (cy 1, 8, .inl (fun _ => 0))), (w16, .inl (cy 1, 8, .inl (fun _ => 0))), (w17, .inl (cy 1, 8, .inl (fun _ => 0))), (w18, .inl (cy 1, 8, .inl (fun _ => 0))), (w19, .inl (cy 1, 8, .inl (fun _ => 0)))] H locs := hW
  refine lv_aload_n hx hb dX13_module_13 rfl (lv_at hl 0 rfl) ?_
  refine lv_iconst (v := 0) hx hb dX13_module_14 (by decide) ?_
  refine pq_put (own := RX13) (ci := 13) (C := RX13) (T := TX13) (N := 229) (kv' := [(0, .int 0), (1, .int 0), (2, .int 0), (3, .int 0), (4, .int 0), (5, .int 0), (6, .int (-1)), (16, .ref w10), (19, .ref w13), (20, .ref w14), (21, .ref w15), (22, .ref w16), (23, .ref w17), (24, .ref w18), (25, .ref w19), (42, .int 0), (59, .int 0), (64, .int 0), (65, .ref w56), (68, .int 0), (69, .int 0), (70, .int 0), (71, .int 0), (72, .int 0), (73, .int 0), (74, .int 0), (75, .long 0), (76, .int 0), (79, .int 0), (97, .ref w59), (99, .int 0), (100, .int 0), (132, .int 0), (136, .int 0), (179, .int 0), (180, .int 0), (181, .long 0), (186, .int 0), (188, .int 0), (190, .ref w115), (201, .int 0), (206, .int 0), (211, .int 0)]) hx hb hpp pi13 tyX13 tyX13_ok nmX13 rfl hown hG hW 0 rfl E_m0 73 (by decide) rfl rfl rfl rfl pp95 dX13_module_15 (fun F_m0 H locs hW E_m0 => ?_)
  have hW : pq_W D _ s.heap L f _ [(m0, .inr (13, F_m0)), (w59, .inl (cy 1, 80, .inl _)), (w13, .inl (cy 1, 8, .inl (fun _ => 0))), (w14, .inl (cy 1, 8, .inl (fun _ => 0))), (w15, .inl (cy 1, 8, .inl (fun _ => 0))), (w16, .inl (cy 1, 8, .inl (fun _ => 0))), (w17, .inl (cy 1, 8, .inl (fun _ => 0))), (w18, .inl (cy 1, 8, .inl (fun _ => 0))), (w19, .inl (cy 1, 8, .inl (fun _ => 0)))] H locs := hW
  refine lv_aload_n hx hb dX13_module_18 rfl (lv_at hl 0 rfl) ?_
  refine lv_iconst (v := 0) hx hb dX13_module_19 (by decide) ?_
  refine pq_put (own := RX13) (ci := 13) (C := RX13) (T := TX13) (N := 229) (kv' := [(0, .int 0), (1, .int 0), (2, .int 0), (3, .int 0), (4, .int 0), (5, .int 0), (6, .int (-1)), (16, .ref w10), (19, .ref w13), (20, .ref w14), (21, .ref w15), (22, .ref w16), (23, .ref w17), (24, .ref w18), (25, .ref w19), (42, .int 0), (59, .int 0), (64, .int 0), (65, .ref w56), (68, .int 0), (69, .int 0), (70, .int 0), (71, .int 0), (72, .int 0), (73, .int 0), (74, .int 0), (75, .long 0), (76, .int 0), (79, .int 0), (97, .ref w59), (99, .int 0), (100, .int 0), (132, .int 0), (136, .int 0), (179, .int 0), (180, .int 0), (181, .long 0), (186, .int 0), (188, .int 0), (190, .ref w115), (201, .int 0), (206, .int 0), (211, .int 0)]) hx hb hpp pi13 tyX13 tyX13_ok nmX13 rfl hown hG hW 0 rfl E_m0 76 (by decide) rfl rfl rfl rfl pp96 dX13_module_20 (fun F_m0 H locs hW E_m0 => ?_)
  have hW : pq_W D _ s.heap L f _ [(m0, .inr (13, F_m0)), (w59, .inl (cy 1, 80, .inl _)), (w13, .inl (cy 1, 8, .inl (fun _ => 0))), (w14, .inl (cy 1, 8, .inl (fun _ => 0))), (w15, .inl (cy 1, 8, .inl (fun _ => 0))), (w16, .inl (cy 1, 8, .inl (fun _ => 0))), (w17, .inl (cy 1, 8, .inl (fun _ => 0))), (w18, .inl (cy 1, 8, .inl (fun _ => 0))), (w19, .inl (cy 1, 8, .inl (fun _ => 0)))] H locs := hW
  refine lv_aload_n hx hb dX13_module_23 rfl (lv_at hl 0 rfl) ?_
  refine pq_callv hW [0] [1, 2, 3, 4, 5, 6, 7, 8] (by decide) rfl rfl (fun f9 hw9 hC9 => va_runV (C := RX13) (As := []) (rest := []) ⟨hx, hb, hml, hown, hts⟩ (c_X13_next l D cy _ L f9 m0 F_m0 hC9 E_m0) (cwV 0 hts (pp_gV pp102 pp101 pp103 pp104 pp20) rfl rfl rfl pd_X13_next ⟨Nat.le_of_ble_eq_true rfl, Nat.le_of_ble_eq_true rfl⟩) (pq_preV hG hw9 hC9 (j := 0) rfl rfl) rfl rfl hl.1 rfl (lv_room (Nat.le_of_ble_eq_true rfl)) dX13_module_24 ⟨Nat.le_of_ble_eq_true rfl, Nat.le_of_ble_eq_true rfl⟩) (fun cs1 H locs hP hW => ?_)
  obtain ⟨F_m0, rfl, E_m0⟩ := hP
  have hW : pq_W D _ s.heap L f _ [(m0, .inr (13, F_m0)), (w59, .inl (cy 1, 80, .inl _)), (w13, .inl (cy 1, 8, .inl (fun _ => 0))), (w14, .inl (cy 1, 8, .inl (fun _ => 0))), (w15, .inl (cy 1, 8, .inl (fun _ => 0))), (w16, .inl (cy 1, 8, .inl (fun _ => 0))), (w17, .inl (cy 1, 8, .inl (fun _ => 0))), (w18, .inl (cy 1, 8, .inl (fun _ => 0))), (w19, .inl (cy 1, 8, .inl (fun _ => 0)))] H locs := hW
  refine lv_iconst (v := 0) hx hb dX13_module_27 (by decide) ?_
  refine lv_istore_n (lv' := [(1, .int 0), (0, .ref m0)]) hx hb dX13_module_28 rfl hl (by decide) rfl (fun ls hl => ?_)
  refine lv_aload_n hx hb dX13_module_29 rfl (lv_at hl 1 rfl) ?_
  refine pq_get (own := RX13) (ci := 13) (C := RX13) (T := TX13) (N := 229) (k := 71) (v := .int 0) hx hb hpp pi13 rfl hown hG hW 0 rfl E_m0 22 rfl (by decide) pp100 dX13_module_30 ?_
  refine lv_if_eq (tgt := 68) hx hb dX13_module_33 (by decide) (fun _ => ?_) (fun c9 => absurd c9 (by decide))
  refine lv_aload_n hx hb dX13_module_68 rfl (lv_at hl 1 rfl) ?_
  refine lv_iconst (v := 0) hx hb dX13_module_69 (by decide) ?_
  refine pq_put (own := RX13) (ci := 13) (C := RX13) (T := TX13) (N := 229) (kv' := [(0, .int 0), (1, .int 0), (2, .int 0), (3, .int 0), (4, .int 0), (5, .int 0), (6, .int (-1)), (16, .ref w10), (19, .ref w13), (20, .ref w14), (21, .ref w15), (22, .ref w16), (23, .ref w17), (24, .ref w18), (25, .ref w19), (42, .int 0), (59, .int 0), (64, .int 0), (65, .ref w56), (68, .int 0), (69, .int 0), (70, .int 0), (71, .int 0), (72, .int 0), (73, .int 0), (74, .int 0), (75, .long 0), (76, .int 0), (79, .int 0), (97, .ref w59), (99, .int 0), (100, .int 0), (132, .int 0), (136, .int 0), (179, .int 0), (180, .int 0), (181, .long 0), (186, .int 0), (188, .int 0), (190, .ref w115), (201, .int 0), (206, .int 0), (211, .int 0)]) hx hb hpp pi13 tyX13 tyX13_ok nmX13 rfl hown hG hW 0 rfl E_m0 79 (by decide) rfl rfl rfl rfl pp105 dX13_module_70 (fun F_m0 H locs hW E_m0 => ?_)
  have hW : pq_W D _ s.heap L f _ [(m0, .inr (13, F_m0)), (w59, .inl (cy 1, 80, .inl _)), (w13, .inl (cy 1, 8, .inl (fun _ => 0))), (w14, .inl (cy 1, 8, .inl (fun _ => 0))), (w15, .inl (cy 1, 8, .inl (fun _ => 0))), (w16, .inl (cy 1, 8, .inl (fun _ => 0))), (w17, .inl (cy 1, 8, .inl (fun _ => 0))), (w18, .inl (cy 1, 8, .inl (fun _ => 0))), (w19, .inl (cy 1, 8, .inl (fun _ => 0)))] H locs := hW
  refine lv_aload_n hx hb dX13_module_73 rfl (lv_at hl 1 rfl) ?_
  refine lv_dup hx hb dX13_module_74 rfl ?_
  refine pq_get (own := RX13) (ci := 13) (C := RX13) (T := TX13) (N := 229) (k := 100) (v := .int 0) hx hb hpp pi13 rfl hown hG hW 0 rfl E_m0 31 rfl (by decide) pp106 dX13_module_75 ?_
  refine lv_iconst (v := 1) hx hb dX13_module_78 (by decide) ?_
  refine lv_iadd hx hb dX13_module_79 ?_
  refine pq_topi (y := 1) (by decide) ?_
  refine pq_put (own := RX13) (ci := 13) (C := RX13) (T := TX13) (N := 229) (kv' := [(0, .int 0), (1, .int 0), (2, .int 0), (3, .int 0), (4, .int 0), (5, .int 0), (6, .int (-1)), (16, .ref w10), (19, .ref w13), (20, .ref w14), (21, .ref w15), (22, .ref w16), (23, .ref w17), (24, .ref w18), (25, .ref w19), (42, .int 0), (59, .int 0), (64, .int 0), (65, .ref w56), (68, .int 0), (69, .int 0), (70, .int 0), (71, .int 0), (72, .int 0), (73, .int 0), (74, .int 0), (75, .long 0), (76, .int 0), (79, .int 0), (97, .ref w59), (99, .int 0), (100, .int 1), (132, .int 0), (136, .int 0), (179, .int 0), (180, .int 0), (181, .long 0), (186, .int 0), (188, .int 0), (190, .ref w115), (201, .int 0), (206, .int 0), (211, .int 0)]) hx hb hpp pi13 tyX13 tyX13_ok nmX13 rfl hown hG hW 0 rfl E_m0 100 (by decide) rfl rfl rfl rfl pp106 dX13_module_80 (fun F_m0 H locs hW E_m0 => ?_)
  have hW : pq_W D _ s.heap L f _ [(m0, .inr (13, F_m0)), (w59, .inl (cy 1, 80, .inl _)), (w13, .inl (cy 1, 8, .inl (fun _ => 0))), (w14, .inl (cy 1, 8, .inl (fun _ => 0))), (w15, .inl (cy 1, 8, .inl (fun _ => 0))), (w16, .inl (cy 1, 8, .inl (fun _ => 0))), (w17, .inl (cy 1, 8, .inl (fun _ => 0))), (w18, .inl (cy 1, 8, .inl (fun _ => 0))), (w19, .inl (cy 1, 8, .inl (fun _ => 0)))] H locs := hW
  refine lv_iload_n hx hb dX13_module_83 rfl (lv_at hl 0 rfl) ?_
  exact pq_iret hx hb hr hlocks rfl (hW.pick (cs2 := [(m0, .inr (13, F_m0))]) [0] (by decide) rfl) ⟨F_m0, 0, rfl, E_m0.one (i := 0) rfl, Or.inr ⟨rfl, not_false, rfl⟩⟩ dX13_module_84
set_option maxHeartbeats 4000000 in
set_option maxRecDepth 100000 in
/-- TongueHouseModel.rule on a new object -/
theorem c_X13_rule (l : Launch) (D : va_G) (cy : Nat → ClassId) (sz : Nat) (L : List Nat) (f : Nat → va_E) {w10 w13 w14 w15 w16 w17 w18 w19 w56 w59 w115 : Nat} (m0 : Nat) (F_m0 : List Value) (hC : pq_C L f [(m0, .inr (13, F_m0))]) (E_m0 : pq_E 229 F_m0 [(0, .int 0), (1, .int 0), (2, .int 0), (3, .int 0), (4, .int 0), (5, .int 0), (6, .int (-1)), (16, .ref w10), (19, .ref w13), (20, .ref w14), (21, .ref w15), (22, .ref w16), (23, .ref w17), (24, .ref w18), (25, .ref w19), (42, .int 0), (59, .int 0), (64, .int 0), (65, .ref w56), (68, .int 0), (69, .int 0), (70, .int 0), (71, .int 0), (72, .int 0), (73, .int 0), (74, .int 0), (75, .long 0), (76, .int 0), (79, .int 0), (97, .ref w59), (99, .int 0), (100, .int 0), (132, .int 0), (136, .int 0), (179, .int 0), (180, .int 0), (181, .long 0), (186, .int 0), (188, .int 0), (190, .ref w115), (201, .int 0), (206, .int 0), (211, .int 0)]) : Met l yX13_rule (Cond.code yX13_rule cX13_rule 1 (some .int) :: pp_ws) ({ frames := 0, cells := 0, slots := 0, locals := 0 }) (pw_Pc D cy [.ref m0] sz L f) (pq_Qi D sz L f [m0] (fun r cs1 => ∃ (G : List Value) (t : Int32), cs1 = [(m0, .inr (13, G))] ∧ pq_E 229 G [(0, .int t)] ∧ ((t = 1 ∧ (False)) ∨ (t = 0 ∧ ¬ (False) ∧ r = 0)))) 0 0 (pw_A L f sz) := by
  refine Met.ofW (cc := cX13_rule) (maxL := 1) (ret := (some .int)) (by decide) rfl ?_
  intro p e s m args below meth c s₁ B hml hv
  obtain ⟨rfl, hsz, hG, hP, hD0⟩ := hv
  have hx := B.exec
  have hb := B.bytes
  have hr := B.returns
  have hts := atoms_spec (ws := Cond.code yX13_rule cX13_rule 1 (some .int) :: pp_ws) B.pre
  have hpp := fun (w : Cond) (h : w ∈ pp_ws) => hts w (List.mem_cons_of_mem _ h)
  have hown : s.vm.findClass RX13 = some m.cls := findClass_of_methodNamed B.named
  have hlocks := B.notSynchronized
  have hw := pw_start (cy := cy) hsz hP hD0
  have hW := pq_start (as := [m0]) hw hC rfl
  have hl := lv_entry ([.ref m0]) (n := 1) (Nat.le_of_ble_eq_true rfl)
  rw [lg_entry_eq]
  generalize (lg_sl ([.ref m0]) ++ List.replicate (1 - (lg_sl ([.ref m0])).length) Slot.unset).toArray = ls at hl ⊢
  have hl : lv_has ls 1 [(0, .ref m0)] := hl
  refine lv_aload_n hx hb dX13_rule_0 rfl (lv_at hl 0 rfl) ?_
  refine lv_iconst (v := 0) hx hb dX13_rule_1 (by decide) ?_
  refine pq_put (own := RX13) (ci := 13) (C := RX13) (T := TX13) (N := 229) (kv' := [(0, .int 0), (1, .int 0), (2, .int 0), (3, .int 0), (4, .int 0), (5, .int 0), (6, .int (-1)), (16, .ref w10), (19, .ref w13), (20, .ref w14), (21, .ref w15), (22, .ref w16), (23, .ref w17), (24, .ref w18), (25, .ref w19), (42, .int 0), (59, .int 0), (64, .int 0), (65, .ref w56), (68, .int 0), (69, .int 0), (70, .int 0), (71, .int 0), (72, .int 0), (73, .int 0), (74, .int 0), (75, .long 0), (76, .int 0), (79, .int 0), (97, .ref w59), (99, .int 0), (100, .int 0), (132, .int 0), (136, .int 0), (179, .int 0), (180, .int 0), (181, .long 0), (186, .int 0), (188, .int 0), (190, .ref w115), (201, .int 0), (206, .int 0), (211, .int 0)]) hx hb hpp pi13 tyX13 tyX13_ok nmX13 rfl hown hG hW 0 rfl E_m0 0 (by decide) rfl rfl rfl rfl pp13 dX13_rule_2 (fun F_m0 H locs hW E_m0 => ?_)
  have hW : pq_W D _ s.heap L f _ [(m0, .inr (13, F_m0))] H locs := hW
  refine lv_aload_n hx hb dX13_rule_5 rfl (lv_at hl 0 rfl) ?_
  refine pq_get (own := RX13) (ci := 13) (C := RX13) (T := TX13) (N := 229) (k := 79) (v := .int 0) hx hb hpp pi13 rfl hown hG hW 0 rfl E_m0 28 rfl (by decide) pp105 dX13_rule_6 ?_
  exact pq_iret hx hb hr hlocks rfl hW ⟨F_m0, 0, rfl, E_m0.one (i := 0) rfl, Or.inr ⟨rfl, not_false, rfl⟩⟩ dX13_rule_9
theorem pz_X13_out_1 (n1 : Int32) (c1 : ¬ n1 < 0) (c2 : n1 < 0) : False := by
  have k0 : (0 : Int32).toInt = 0 := by decide
  simp only [Int32.lt_iff_toInt_lt, Int32.le_iff_toInt_le, ← Int32.toInt_inj] at c1 c2 ⊢
  omega
set_option maxHeartbeats 4000000 in
set_option maxRecDepth 100000 in
/-- TongueHouseModel.out on a new object -/
theorem c_X13_out (l : Launch) (D : va_G) (cy : Nat → ClassId) (sz : Nat) (L : List Nat) (f : Nat → va_E) {w10 w13 w14 w15 w16 w17 w18 w19 w56 w59 w115 : Nat} (m0 : Nat) (F_m0 : List Value) (n1 : Int32) (hC : pq_C L f [(m0, .inr (13, F_m0))]) (E_m0 : pq_E 229 F_m0 [(0, .int 0), (1, .int 0), (2, .int 0), (3, .int 0), (4, .int 0), (5, .int 0), (6, .int (-1)), (16, .ref w10), (19, .ref w13), (20, .ref w14), (21, .ref w15), (22, .ref w16), (23, .ref w17), (24, .ref w18), (25, .ref w19), (42, .int 0), (59, .int 0), (64, .int 0), (65, .ref w56), (68, .int 0), (69, .int 0), (70, .int 0), (71, .int 0), (72, .int 0), (73, .int 0), (74, .int 0), (75, .long 0), (76, .int 0), (79, .int 0), (97, .ref w59), (99, .int 0), (100, .int 0), (132, .int 0), (136, .int 0), (179, .int 0), (180, .int 0), (181, .long 0), (186, .int 0), (188, .int 0), (190, .ref w115), (201, .int 0), (206, .int 0), (211, .int 0)]) : Met l yX13_out (Cond.code yX13_out cX13_out 2 (some .int) :: pp_ws) ({ frames := 0, cells := 0, slots := 0, locals := 0 }) (pw_Pc D cy [.ref m0, .int n1] sz L f) (pq_Qi D sz L f [m0] (fun r cs1 => ∃ (G : List Value) (t : Int32), cs1 = [(m0, .inr (13, G))] ∧ pq_E 229 G [(0, .int t)] ∧ ((t = 1 ∧ (False)) ∨ (t = 0 ∧ ¬ (False) ∧ r = (-1))))) 0 0 (pw_A L f sz) := by
  refine Met.ofW (cc := cX13_out) (maxL := 2) (ret := (some .int)) (by decide) rfl ?_
  intro p e s m args below meth c s₁ B hml hv
  obtain ⟨rfl, hsz, hG, hP, hD0⟩ := hv
  have hx := B.exec
  have hb := B.bytes
  have hr := B.returns
  have hts := atoms_spec (ws := Cond.code yX13_out cX13_out 2 (some .int) :: pp_ws) B.pre
  have hpp := fun (w : Cond) (h : w ∈ pp_ws) => hts w (List.mem_cons_of_mem _ h)
  have hown : s.vm.findClass RX13 = some m.cls := findClass_of_methodNamed B.named
  have hlocks := B.notSynchronized
  have hw := pw_start (cy := cy) hsz hP hD0
  have hW := pq_start (as := [m0]) hw hC rfl
  have hl := lv_entry ([.ref m0, .int n1]) (n := 2) (Nat.le_of_ble_eq_true rfl)
  rw [lg_entry_eq]
  generalize (lg_sl ([.ref m0, .int n1]) ++ List.replicate (2 - (lg_sl ([.ref m0, .int n1])).length) Slot.unset).toArray = ls at hl ⊢
  have hl : lv_has ls 2 [(0, .ref m0), (1, .int n1)] := hl
  refine lv_aload_n hx hb dX13_out_0 rfl (lv_at hl 0 rfl) ?_
  refine lv_iconst (v := 0) hx hb dX13_out_1 (by decide) ?_
  refine pq_put (own := RX13) (ci := 13) (C := RX13) (T := TX13) (N := 229) (kv' := [(0, .int 0), (1, .int 0), (2, .int 0), (3, .int 0), (4, .int 0), (5, .int 0), (6, .int (-1)), (16, .ref w10), (19, .ref w13), (20, .ref w14), (21, .ref w15), (22, .ref w16), (23, .ref w17), (24, .ref w18), (25, .ref w19), (42, .int 0), (59, .int 0), (64, .int 0), (65, .ref w56), (68, .int 0), (69, .int 0), (70, .int 0), (71, .int 0), (72, .int 0), (73, .int 0), (74, .int 0), (75, .long 0), (76, .int 0), (79, .int 0), (97, .ref w59), (99, .int 0), (100, .int 0), (132, .int 0), (136, .int 0), (179, .int 0), (180, .int 0), (181, .long 0), (186, .int 0), (188, .int 0), (190, .ref w115), (201, .int 0), (206, .int 0), (211, .int 0)]) hx hb hpp pi13 tyX13 tyX13_ok nmX13 rfl hown hG hW 0 rfl E_m0 0 (by decide) rfl rfl rfl rfl pp13 dX13_out_2 (fun F_m0 H locs hW E_m0 => ?_)
  have hW : pq_W D _ s.heap L f _ [(m0, .inr (13, F_m0))] H locs := hW
  refine lv_iload_n hx hb dX13_out_5 rfl (lv_at hl 1 rfl) ?_
  refine lv_if_lt (tgt := 17) hx hb dX13_out_6 (by decide) (fun c1 => ?_) (fun c1 => ?_)
  · refine lv_iconst (v := (-1)) hx hb dX13_out_17 (by decide) ?_
    refine lv_goto (tgt := 31) hx hb dX13_out_18 (by decide) ?_
    exact pq_iret hx hb hr hlocks rfl hW ⟨F_m0, 0, rfl, E_m0.one (i := 0) rfl, Or.inr ⟨rfl, not_false, rfl⟩⟩ dX13_out_31
  · refine lv_iload_n hx hb dX13_out_9 rfl (lv_at hl 1 rfl) ?_
    refine lv_aload_n hx hb dX13_out_10 rfl (lv_at hl 0 rfl) ?_
    refine pq_get (own := RX13) (ci := 13) (C := RX13) (T := TX13) (N := 229) (k := 70) (v := .int 0) hx hb hpp pi13 rfl hown hG hW 0 rfl E_m0 21 rfl (by decide) pp109 dX13_out_11 ?_
    refine lv_icmp_lt (tgt := 21) hx hb dX13_out_14 (by decide) (fun c2 => (pz_X13_out_1 n1 c1 c2).elim) (fun _ => ?_)
    refine lv_iconst (v := (-1)) hx hb dX13_out_17 (by decide) ?_
    refine lv_goto (tgt := 31) hx hb dX13_out_18 (by decide) ?_
    exact pq_iret hx hb hr hlocks rfl hW ⟨F_m0, 0, rfl, E_m0.one (i := 0) rfl, Or.inr ⟨rfl, not_false, rfl⟩⟩ dX13_out_31
theorem pz_X13_number_1 (n2 : Int32) (c1 : n2 < 0) : n2 < 0 ∨ 2 < n2 := by
  have k0 : (0 : Int32).toInt = 0 := by decide
  have k2 : (2 : Int32).toInt = 2 := by decide
  simp only [Int32.lt_iff_toInt_lt, Int32.le_iff_toInt_le, ← Int32.toInt_inj] at c1 ⊢
  omega
theorem pz_X13_number_2 (n2 : Int32) (c1 : ¬ n2 < 0) (c2 : 5 < n2) : n2 < 0 ∨ 2 < n2 := by
  have k0 : (0 : Int32).toInt = 0 := by decide
  have k2 : (2 : Int32).toInt = 2 := by decide
  have k5 : (5 : Int32).toInt = 5 := by decide
  simp only [Int32.lt_iff_toInt_lt, Int32.le_iff_toInt_le, ← Int32.toInt_inj] at c1 c2 ⊢
  omega
theorem pz_X13_number_3 (n2 : Int32) (c1 : ¬ n2 < 0) (c2 : ¬ 5 < n2) (c3 : n2 ≤ 2) : ¬ (n2 < 0 ∨ 2 < n2) := by
  have k0 : (0 : Int32).toInt = 0 := by decide
  have k2 : (2 : Int32).toInt = 2 := by decide
  have k5 : (5 : Int32).toInt = 5 := by decide
  simp only [Int32.lt_iff_toInt_lt, Int32.le_iff_toInt_le, ← Int32.toInt_inj] at c1 c2 c3 ⊢
  omega
theorem pz_X13_number_4 (n1 n2 : Int32) (c1 : ¬ n2 < 0) (c2 : ¬ 5 < n2) (c3 : ¬ n2 ≤ 2) (c4 : n1 < 0) : n2 < 0 ∨ 2 < n2 := by
  have k0 : (0 : Int32).toInt = 0 := by decide
  have k2 : (2 : Int32).toInt = 2 := by decide
  have k5 : (5 : Int32).toInt = 5 := by decide
  simp only [Int32.lt_iff_toInt_lt, Int32.le_iff_toInt_le, ← Int32.toInt_inj] at c1 c2 c3 c4 ⊢
  omega
theorem pz_X13_number_5 (n1 n2 : Int32) (c1 : ¬ n2 < 0) (c2 : ¬ 5 < n2) (c3 : ¬ n2 ≤ 2) (c4 : ¬ n1 < 0) (c5 : n1 < 0) : False := by
  have k0 : (0 : Int32).toInt = 0 := by decide
  have k2 : (2 : Int32).toInt = 2 := by decide
  have k5 : (5 : Int32).toInt = 5 := by decide
  simp only [Int32.lt_iff_toInt_lt, Int32.le_iff_toInt_le, ← Int32.toInt_inj] at c1 c2 c3 c4 c5 ⊢
  omega
theorem pz_X13_number_6 (n1 n2 : Int32) (c1 : ¬ n2 < 0) (c2 : ¬ 5 < n2) (c3 : ¬ n2 ≤ 2) (c4 : ¬ n1 < 0) : n2 < 0 ∨ 2 < n2 := by
  have k0 : (0 : Int32).toInt = 0 := by decide
  have k2 : (2 : Int32).toInt = 2 := by decide
  have k5 : (5 : Int32).toInt = 5 := by decide
  simp only [Int32.lt_iff_toInt_lt, Int32.le_iff_toInt_le, ← Int32.toInt_inj] at c1 c2 c3 c4 ⊢
  omega
set_option maxHeartbeats 4000000 in
set_option maxRecDepth 100000 in
/-- TongueHouseModel.number on a new object -/
theorem c_X13_number (l : Launch) (D : va_G) (cy : Nat → ClassId) (sz : Nat) (L : List Nat) (f : Nat → va_E) {w10 w13 w14 w15 w16 w17 w18 w19 w56 w59 w115 : Nat} (m0 : Nat) (F_m0 : List Value) (n1 : Int32) (n2 : Int32) (hC : pq_C L f [(m0, .inr (13, F_m0))]) (E_m0 : pq_E 229 F_m0 [(0, .int 0), (1, .int 0), (2, .int 0), (3, .int 0), (4, .int 0), (5, .int 0), (6, .int (-1)), (16, .ref w10), (19, .ref w13), (20, .ref w14), (21, .ref w15), (22, .ref w16), (23, .ref w17), (24, .ref w18), (25, .ref w19), (42, .int 0), (59, .int 0), (64, .int 0), (65, .ref w56), (68, .int 0), (69, .int 0), (70, .int 0), (71, .int 0), (72, .int 0), (73, .int 0), (74, .int 0), (75, .long 0), (76, .int 0), (79, .int 0), (97, .ref w59), (99, .int 0), (100, .int 0), (132, .int 0), (136, .int 0), (179, .int 0), (180, .int 0), (181, .long 0), (186, .int 0), (188, .int 0), (190, .ref w115), (201, .int 0), (206, .int 0), (211, .int 0)]) : Met l yX13_number (Cond.code yX13_number cX13_number 5 (some .int) :: pp_ws) ({ frames := 1, cells := 0, slots := 0, locals := 21 }) (pw_Pc D cy [.ref m0, .int n1, .int n2] sz L f) (pq_Qi D sz L f [m0] (fun r cs1 => ∃ (G : List Value) (t : Int32), cs1 = [(m0, .inr (13, G))] ∧ pq_E 229 G [(0, .int t)] ∧ ((t = 1 ∧ (n2 < 0 ∨ 2 < n2)) ∨ (t = 0 ∧ ¬ (n2 < 0 ∨ 2 < n2) ∧ r = (-1))))) 0 0 (pw_A L f sz) := by
  refine Met.ofW (cc := cX13_number) (maxL := 5) (ret := (some .int)) (by decide) rfl ?_
  intro p e s m args below meth c s₁ B hml hv
  obtain ⟨rfl, hsz, hG, hP, hD0⟩ := hv
  have hx := B.exec
  have hb := B.bytes
  have hr := B.returns
  have hts := atoms_spec (ws := Cond.code yX13_number cX13_number 5 (some .int) :: pp_ws) B.pre
  have hpp := fun (w : Cond) (h : w ∈ pp_ws) => hts w (List.mem_cons_of_mem _ h)
  have hown : s.vm.findClass RX13 = some m.cls := findClass_of_methodNamed B.named
  have hlocks := B.notSynchronized
  have hw := pw_start (cy := cy) hsz hP hD0
  have hW := pq_start (as := [m0]) hw hC rfl
  have hl := lv_entry ([.ref m0, .int n1, .int n2]) (n := 5) (Nat.le_of_ble_eq_true rfl)
  rw [lg_entry_eq]
  generalize (lg_sl ([.ref m0, .int n1, .int n2]) ++ List.replicate (5 - (lg_sl ([.ref m0, .int n1, .int n2])).length) Slot.unset).toArray = ls at hl ⊢
  have hl : lv_has ls 5 [(0, .ref m0), (1, .int n1), (2, .int n2)] := hl
  refine lv_aload_n hx hb dX13_number_0 rfl (lv_at hl 0 rfl) ?_
  refine lv_iconst (v := 0) hx hb dX13_number_1 (by decide) ?_
  refine pq_put (own := RX13) (ci := 13) (C := RX13) (T := TX13) (N := 229) (kv' := [(0, .int 0), (1, .int 0), (2, .int 0), (3, .int 0), (4, .int 0), (5, .int 0), (6, .int (-1)), (16, .ref w10), (19, .ref w13), (20, .ref w14), (21, .ref w15), (22, .ref w16), (23, .ref w17), (24, .ref w18), (25, .ref w19), (42, .int 0), (59, .int 0), (64, .int 0), (65, .ref w56), (68, .int 0), (69, .int 0), (70, .int 0), (71, .int 0), (72, .int 0), (73, .int 0), (74, .int 0), (75, .long 0), (76, .int 0), (79, .int 0), (97, .ref w59), (99, .int 0), (100, .int 0), (132, .int 0), (136, .int 0), (179, .int 0), (180, .int 0), (181, .long 0), (186, .int 0), (188, .int 0), (190, .ref w115), (201, .int 0), (206, .int 0), (211, .int 0)]) hx hb hpp pi13 tyX13 tyX13_ok nmX13 rfl hown hG hW 0 rfl E_m0 0 (by decide) rfl rfl rfl rfl pp13 dX13_number_2 (fun F_m0 H locs hW E_m0 => ?_)
  have hW : pq_W D _ s.heap L f _ [(m0, .inr (13, F_m0))] H locs := hW
  refine lv_iload_n hx hb dX13_number_5 rfl (lv_at hl 2 rfl) ?_
  refine lv_if_lt (tgt := 31) hx hb dX13_number_6 (by decide) (fun c1 => ?_) (fun c1 => ?_)
  · refine lv_aload_n hx hb dX13_number_31 rfl (lv_at hl 0 rfl) ?_
    refine pq_calli hW [0] [] (by decide) rfl rfl (fun f9 hw9 hC9 => va_runV (C := RX13) (As := []) (rest := []) ⟨hx, hb, hml, hown, hts⟩ (c_X13_bad l D cy _ L f9 m0 F_m0 hC9 E_m0) (cwV 0 hts (pp_gV pp24 pp23 pp25 pp26 pp20) rfl rfl rfl pd_X13_bad ⟨Nat.le_of_ble_eq_true rfl, Nat.le_of_ble_eq_true rfl⟩) (pq_preV hG hw9 hC9 (j := 0) rfl rfl) rfl rfl hl.1 rfl (lv_room (Nat.le_of_ble_eq_true rfl)) dX13_number_32 ⟨Nat.le_of_ble_eq_true rfl, Nat.le_of_ble_eq_true rfl⟩) (fun r cs1 H locs hP hW => ?_)
    obtain ⟨F_m0, rfl, rfl, E_m0⟩ := hP
    have hW : pq_W D _ s.heap L f _ [(m0, .inr (13, F_m0))] H locs := hW
    exact pq_iret hx hb hr hlocks rfl hW ⟨F_m0, 1, rfl, E_m0.one (i := 0) rfl, Or.inl ⟨rfl, (pz_X13_number_1 n2 c1)⟩⟩ dX13_number_35
  · refine lv_iload_n hx hb dX13_number_9 rfl (lv_at hl 2 rfl) ?_
    refine lv_iconst (v := 5) hx hb dX13_number_10 (by decide) ?_
    refine lv_icmp_gt (tgt := 31) hx hb dX13_number_11 (by decide) (fun c2 => ?_) (fun c2 => ?_)
    · refine lv_aload_n hx hb dX13_number_31 rfl (lv_at hl 0 rfl) ?_
      refine pq_calli hW [0] [] (by decide) rfl rfl (fun f9 hw9 hC9 => va_runV (C := RX13) (As := []) (rest := []) ⟨hx, hb, hml, hown, hts⟩ (c_X13_bad l D cy _ L f9 m0 F_m0 hC9 E_m0) (cwV 0 hts (pp_gV pp24 pp23 pp25 pp26 pp20) rfl rfl rfl pd_X13_bad ⟨Nat.le_of_ble_eq_true rfl, Nat.le_of_ble_eq_true rfl⟩) (pq_preV hG hw9 hC9 (j := 0) rfl rfl) rfl rfl hl.1 rfl (lv_room (Nat.le_of_ble_eq_true rfl)) dX13_number_32 ⟨Nat.le_of_ble_eq_true rfl, Nat.le_of_ble_eq_true rfl⟩) (fun r cs1 H locs hP hW => ?_)
      obtain ⟨F_m0, rfl, rfl, E_m0⟩ := hP
      have hW : pq_W D _ s.heap L f _ [(m0, .inr (13, F_m0))] H locs := hW
      exact pq_iret hx hb hr hlocks rfl hW ⟨F_m0, 1, rfl, E_m0.one (i := 0) rfl, Or.inl ⟨rfl, (pz_X13_number_2 n2 c1 c2)⟩⟩ dX13_number_35
    · refine lv_iload_n hx hb dX13_number_14 rfl (lv_at hl 2 rfl) ?_
      refine lv_iconst (v := 2) hx hb dX13_number_15 (by decide) ?_
      refine lv_icmp_le (tgt := 36) hx hb dX13_number_16 (by decide) (fun c3 => ?_) (fun c3 => ?_)
      · refine lv_aload_n hx hb dX13_number_36 rfl (lv_at hl 0 rfl) ?_
        refine pq_callv hW [0] [] (by decide) rfl rfl (fun f9 hw9 hC9 => va_runV (C := RX13) (As := []) (rest := []) ⟨hx, hb, hml, hown, hts⟩ (c_X13_reads l D cy _ L f9 m0 F_m0 hC9 E_m0) (cwV 0 hts (pp_gV pp70 pp69 pp71 pp72 pp20) rfl rfl rfl pd_X13_reads ⟨Nat.le_of_ble_eq_true rfl, Nat.le_of_ble_eq_true rfl⟩) (pq_preV hG hw9 hC9 (j := 0) rfl rfl) rfl rfl hl.1 rfl (lv_room (Nat.le_of_ble_eq_true rfl)) dX13_number_37 ⟨Nat.le_of_ble_eq_true rfl, Nat.le_of_ble_eq_true rfl⟩) (fun cs1 H locs hP hW => ?_)
        obtain ⟨F_m0, rfl, E_m0⟩ := hP
        have hW : pq_W D _ s.heap L f _ [(m0, .inr (13, F_m0))] H locs := hW
        refine lv_aload_n hx hb dX13_number_40 rfl (lv_at hl 0 rfl) ?_
        refine lv_iconst (v := 0) hx hb dX13_number_41 (by decide) ?_
        refine pq_put (own := RX13) (ci := 13) (C := RX13) (T := TX13) (N := 229) (kv' := [(0, .int 0), (1, .int 0), (2, .int 0), (3, .int 0), (4, .int 0), (5, .int 0), (6, .int (-1)), (16, .ref w10), (19, .ref w13), (20, .ref w14), (21, .ref w15), (22, .ref w16), (23, .ref w17), (24, .ref w18), (25, .ref w19), (42, .int 0), (59, .int 0), (64, .int 0), (65, .ref w56), (68, .int 0), (69, .int 0), (70, .int 0), (71, .int 0), (72, .int 0), (73, .int 0), (74, .int 0), (75, .long 0), (76, .int 0), (79, .int 0), (97, .ref w59), (99, .int 0), (100, .int 0), (132, .int 0), (136, .int 0), (179, .int 0), (180, .int 0), (181, .long 0), (186, .int 0), (188, .int 0), (190, .ref w115), (201, .int 0), (206, .int 0), (211, .int 0)]) hx hb hpp pi13 tyX13 tyX13_ok nmX13 rfl hown hG hW 0 rfl E_m0 73 (by decide) rfl rfl rfl rfl pp95 dX13_number_42 (fun F_m0 H locs hW E_m0 => ?_)
        have hW : pq_W D _ s.heap L f _ [(m0, .inr (13, F_m0))] H locs := hW
        refine lv_aload_n hx hb dX13_number_45 rfl (lv_at hl 0 rfl) ?_
        refine pq_callv hW [0] [] (by decide) rfl rfl (fun f9 hw9 hC9 => va_runV (C := RX13) (As := []) (rest := []) ⟨hx, hb, hml, hown, hts⟩ (c_X13_next l D cy _ L f9 m0 F_m0 hC9 E_m0) (cwV 0 hts (pp_gV pp102 pp101 pp103 pp104 pp20) rfl rfl rfl pd_X13_next ⟨Nat.le_of_ble_eq_true rfl, Nat.le_of_ble_eq_true rfl⟩) (pq_preV hG hw9 hC9 (j := 0) rfl rfl) rfl rfl hl.1 rfl (lv_room (Nat.le_of_ble_eq_true rfl)) dX13_number_46 ⟨Nat.le_of_ble_eq_true rfl, Nat.le_of_ble_eq_true rfl⟩) (fun cs1 H locs hP hW => ?_)
        obtain ⟨F_m0, rfl, E_m0⟩ := hP
        have hW : pq_W D _ s.heap L f _ [(m0, .inr (13, F_m0))] H locs := hW
        refine lv_aload_n hx hb dX13_number_49 rfl (lv_at hl 0 rfl) ?_
        refine pq_get (own := RX13) (ci := 13) (C := RX13) (T := TX13) (N := 229) (k := 71) (v := .int 0) hx hb hpp pi13 rfl hown hG hW 0 rfl E_m0 22 rfl (by decide) pp100 dX13_number_50 ?_
        refine lv_iconst (v := 1) hx hb dX13_number_53 (by decide) ?_
        refine lv_icmp_eq (tgt := 59) hx hb dX13_number_54 (by decide) (fun c9 => absurd c9 (by decide)) (fun _ => ?_)
        refine lv_iconst (v := (-1)) hx hb dX13_number_57 (by decide) ?_
        exact pq_iret hx hb hr hlocks rfl hW ⟨F_m0, 0, rfl, E_m0.one (i := 0) rfl, Or.inr ⟨rfl, (pz_X13_number_3 n2 c1 c2 c3), rfl⟩⟩ dX13_number_58
      · refine lv_iload_n hx hb dX13_number_19 rfl (lv_at hl 1 rfl) ?_
        refine lv_if_lt (tgt := 31) hx hb dX13_number_20 (by decide) (fun c4 => ?_) (fun c4 => ?_)
        · refine lv_aload_n hx hb dX13_number_31 rfl (lv_at hl 0 rfl) ?_
          refine pq_calli hW [0] [] (by decide) rfl rfl (fun f9 hw9 hC9 => va_runV (C := RX13) (As := []) (rest := []) ⟨hx, hb, hml, hown, hts⟩ (c_X13_bad l D cy _ L f9 m0 F_m0 hC9 E_m0) (cwV 0 hts (pp_gV pp24 pp23 pp25 pp26 pp20) rfl rfl rfl pd_X13_bad ⟨Nat.le_of_ble_eq_true rfl, Nat.le_of_ble_eq_true rfl⟩) (pq_preV hG hw9 hC9 (j := 0) rfl rfl) rfl rfl hl.1 rfl (lv_room (Nat.le_of_ble_eq_true rfl)) dX13_number_32 ⟨Nat.le_of_ble_eq_true rfl, Nat.le_of_ble_eq_true rfl⟩) (fun r cs1 H locs hP hW => ?_)
          obtain ⟨F_m0, rfl, rfl, E_m0⟩ := hP
          have hW : pq_W D _ s.heap L f _ [(m0, .inr (13, F_m0))] H locs := hW
          exact pq_iret hx hb hr hlocks rfl hW ⟨F_m0, 1, rfl, E_m0.one (i := 0) rfl, Or.inl ⟨rfl, (pz_X13_number_4 n1 n2 c1 c2 c3 c4)⟩⟩ dX13_number_35
        · refine lv_iload_n hx hb dX13_number_23 rfl (lv_at hl 1 rfl) ?_
          refine lv_aload_n hx hb dX13_number_24 rfl (lv_at hl 0 rfl) ?_
          refine pq_get (own := RX13) (ci := 13) (C := RX13) (T := TX13) (N := 229) (k := 1) (v := .int 0) hx hb hpp pi13 rfl hown hG hW 0 rfl E_m0 1 rfl (by decide) pp74 dX13_number_25 ?_
          refine lv_icmp_lt (tgt := 36) hx hb dX13_number_28 (by decide) (fun c5 => (pz_X13_number_5 n1 n2 c1 c2 c3 c4 c5).elim) (fun _ => ?_)
          refine lv_aload_n hx hb dX13_number_31 rfl (lv_at hl 0 rfl) ?_
          refine pq_calli hW [0] [] (by decide) rfl rfl (fun f9 hw9 hC9 => va_runV (C := RX13) (As := []) (rest := []) ⟨hx, hb, hml, hown, hts⟩ (c_X13_bad l D cy _ L f9 m0 F_m0 hC9 E_m0) (cwV 0 hts (pp_gV pp24 pp23 pp25 pp26 pp20) rfl rfl rfl pd_X13_bad ⟨Nat.le_of_ble_eq_true rfl, Nat.le_of_ble_eq_true rfl⟩) (pq_preV hG hw9 hC9 (j := 0) rfl rfl) rfl rfl hl.1 rfl (lv_room (Nat.le_of_ble_eq_true rfl)) dX13_number_32 ⟨Nat.le_of_ble_eq_true rfl, Nat.le_of_ble_eq_true rfl⟩) (fun r cs1 H locs hP hW => ?_)
          obtain ⟨F_m0, rfl, rfl, E_m0⟩ := hP
          have hW : pq_W D _ s.heap L f _ [(m0, .inr (13, F_m0))] H locs := hW
          exact pq_iret hx hb hr hlocks rfl hW ⟨F_m0, 1, rfl, E_m0.one (i := 0) rfl, Or.inl ⟨rfl, (pz_X13_number_6 n1 n2 c1 c2 c3 c4)⟩⟩ dX13_number_35
theorem pz_X13_analysis_1 (n2 : Int32) (c1 : n2 < 0) : n2 < 0 ∨ 11 < n2 := by
  have k0 : (0 : Int32).toInt = 0 := by decide
  have k11 : (11 : Int32).toInt = 11 := by decide
  simp only [Int32.lt_iff_toInt_lt, Int32.le_iff_toInt_le, ← Int32.toInt_inj] at c1 ⊢
  omega
theorem pz_X13_analysis_2 (n1 n2 : Int32) (c1 : ¬ n2 < 0) (c2 : n2 ≤ 11) (c3 : n1 < 0) : ¬ (n2 < 0 ∨ 11 < n2) := by
  have k0 : (0 : Int32).toInt = 0 := by decide
  have k11 : (11 : Int32).toInt = 11 := by decide
  simp only [Int32.lt_iff_toInt_lt, Int32.le_iff_toInt_le, ← Int32.toInt_inj] at c1 c2 c3 ⊢
  omega
theorem pz_X13_analysis_3 (n1 n2 : Int32) (c1 : ¬ n2 < 0) (c2 : n2 ≤ 11) (c3 : ¬ n1 < 0) (c4 : n1 < 0) : False := by
  have k0 : (0 : Int32).toInt = 0 := by decide
  have k11 : (11 : Int32).toInt = 11 := by decide
  simp only [Int32.lt_iff_toInt_lt, Int32.le_iff_toInt_le, ← Int32.toInt_inj] at c1 c2 c3 c4 ⊢
  omega
theorem pz_X13_analysis_4 (n1 n2 : Int32) (c1 : ¬ n2 < 0) (c2 : n2 ≤ 11) (c3 : ¬ n1 < 0) : ¬ (n2 < 0 ∨ 11 < n2) := by
  have k0 : (0 : Int32).toInt = 0 := by decide
  have k11 : (11 : Int32).toInt = 11 := by decide
  simp only [Int32.lt_iff_toInt_lt, Int32.le_iff_toInt_le, ← Int32.toInt_inj] at c1 c2 c3 ⊢
  omega
theorem pz_X13_analysis_5 (n2 : Int32) (c1 : ¬ n2 < 0) (c2 : ¬ n2 ≤ 11) : n2 < 0 ∨ 11 < n2 := by
  have k0 : (0 : Int32).toInt = 0 := by decide
  have k11 : (11 : Int32).toInt = 11 := by decide
  simp only [Int32.lt_iff_toInt_lt, Int32.le_iff_toInt_le, ← Int32.toInt_inj] at c1 c2 ⊢
  omega
set_option maxHeartbeats 4000000 in
set_option maxRecDepth 100000 in
/-- TongueHouseModel.analysis on a new object -/
theorem c_X13_analysis (l : Launch) (D : va_G) (cy : Nat → ClassId) (sz : Nat) (L : List Nat) (f : Nat → va_E) {w10 w13 w14 w15 w16 w17 w18 w19 w56 w59 w115 : Nat} (m0 : Nat) (F_m0 : List Value) (n1 : Int32) (n2 : Int32) (hC : pq_C L f [(m0, .inr (13, F_m0))]) (E_m0 : pq_E 229 F_m0 [(0, .int 0), (1, .int 0), (2, .int 0), (3, .int 0), (4, .int 0), (5, .int 0), (6, .int (-1)), (16, .ref w10), (19, .ref w13), (20, .ref w14), (21, .ref w15), (22, .ref w16), (23, .ref w17), (24, .ref w18), (25, .ref w19), (42, .int 0), (59, .int 0), (64, .int 0), (65, .ref w56), (68, .int 0), (69, .int 0), (70, .int 0), (71, .int 0), (72, .int 0), (73, .int 0), (74, .int 0), (75, .long 0), (76, .int 0), (79, .int 0), (97, .ref w59), (99, .int 0), (100, .int 0), (132, .int 0), (136, .int 0), (179, .int 0), (180, .int 0), (181, .long 0), (186, .int 0), (188, .int 0), (190, .ref w115), (201, .int 0), (206, .int 0), (211, .int 0)]) : Met l yX13_analysis (Cond.code yX13_analysis cX13_analysis 6 (some .int) :: pp_ws) ({ frames := 1, cells := 0, slots := 0, locals := 20 }) (pw_Pc D cy [.ref m0, .int n1, .int n2] sz L f) (pq_Qi D sz L f [m0] (fun r cs1 => ∃ (G : List Value) (t : Int32), cs1 = [(m0, .inr (13, G))] ∧ pq_E 229 G [(0, .int t)] ∧ ((t = 1 ∧ (n2 < 0 ∨ 11 < n2)) ∨ (t = 0 ∧ ¬ (n2 < 0 ∨ 11 < n2) ∧ r = (-1))))) 0 0 (pw_A L f sz) := by
  refine Met.ofW (cc := cX13_analysis) (maxL := 6) (ret := (some .int)) (by decide) rfl ?_
  intro p e s m args below meth c s₁ B hml hv
  obtain ⟨rfl, hsz, hG, hP, hD0⟩ := hv
  have hx := B.exec
  have hb := B.bytes
  have hr := B.returns
  have hts := atoms_spec (ws := Cond.code yX13_analysis cX13_analysis 6 (some .int) :: pp_ws) B.pre
  have hpp := fun (w : Cond) (h : w ∈ pp_ws) => hts w (List.mem_cons_of_mem _ h)
  have hown : s.vm.findClass RX13 = some m.cls := findClass_of_methodNamed B.named
  have hlocks := B.notSynchronized
  have hw := pw_start (cy := cy) hsz hP hD0
  have hW := pq_start (as := [m0]) hw hC rfl
  have hl := lv_entry ([.ref m0, .int n1, .int n2]) (n := 6) (Nat.le_of_ble_eq_true rfl)
  rw [lg_entry_eq]
  generalize (lg_sl ([.ref m0, .int n1, .int n2]) ++ List.replicate (6 - (lg_sl ([.ref m0, .int n1, .int n2])).length) Slot.unset).toArray = ls at hl ⊢
  have hl : lv_has ls 6 [(0, .ref m0), (1, .int n1), (2, .int n2)] := hl
  refine lv_aload_n hx hb dX13_analysis_0 rfl (lv_at hl 0 rfl) ?_
  refine lv_iconst (v := 0) hx hb dX13_analysis_1 (by decide) ?_
  refine pq_put (own := RX13) (ci := 13) (C := RX13) (T := TX13) (N := 229) (kv' := [(0, .int 0), (1, .int 0), (2, .int 0), (3, .int 0), (4, .int 0), (5, .int 0), (6, .int (-1)), (16, .ref w10), (19, .ref w13), (20, .ref w14), (21, .ref w15), (22, .ref w16), (23, .ref w17), (24, .ref w18), (25, .ref w19), (42, .int 0), (59, .int 0), (64, .int 0), (65, .ref w56), (68, .int 0), (69, .int 0), (70, .int 0), (71, .int 0), (72, .int 0), (73, .int 0), (74, .int 0), (75, .long 0), (76, .int 0), (79, .int 0), (97, .ref w59), (99, .int 0), (100, .int 0), (132, .int 0), (136, .int 0), (179, .int 0), (180, .int 0), (181, .long 0), (186, .int 0), (188, .int 0), (190, .ref w115), (201, .int 0), (206, .int 0), (211, .int 0)]) hx hb hpp pi13 tyX13 tyX13_ok nmX13 rfl hown hG hW 0 rfl E_m0 0 (by decide) rfl rfl rfl rfl pp13 dX13_analysis_2 (fun F_m0 H locs hW E_m0 => ?_)
  have hW : pq_W D _ s.heap L f _ [(m0, .inr (13, F_m0))] H locs := hW
  refine lv_iload_n hx hb dX13_analysis_5 rfl (lv_at hl 2 rfl) ?_
  refine lv_if_lt (tgt := 15) hx hb dX13_analysis_6 (by decide) (fun c1 => ?_) (fun c1 => ?_)
  · refine lv_aload_n hx hb dX13_analysis_15 rfl (lv_at hl 0 rfl) ?_
    refine pq_calli hW [0] [] (by decide) rfl rfl (fun f9 hw9 hC9 => va_runV (C := RX13) (As := []) (rest := []) ⟨hx, hb, hml, hown, hts⟩ (c_X13_bad l D cy _ L f9 m0 F_m0 hC9 E_m0) (cwV 0 hts (pp_gV pp24 pp23 pp25 pp26 pp20) rfl rfl rfl pd_X13_bad ⟨Nat.le_of_ble_eq_true rfl, Nat.le_of_ble_eq_true rfl⟩) (pq_preV hG hw9 hC9 (j := 0) rfl rfl) rfl rfl hl.1 rfl (lv_room (Nat.le_of_ble_eq_true rfl)) dX13_analysis_16 ⟨Nat.le_of_ble_eq_true rfl, Nat.le_of_ble_eq_true rfl⟩) (fun r cs1 H locs hP hW => ?_)
    obtain ⟨F_m0, rfl, rfl, E_m0⟩ := hP
    have hW : pq_W D _ s.heap L f _ [(m0, .inr (13, F_m0))] H locs := hW
    exact pq_iret hx hb hr hlocks rfl hW ⟨F_m0, 1, rfl, E_m0.one (i := 0) rfl, Or.inl ⟨rfl, (pz_X13_analysis_1 n2 c1)⟩⟩ dX13_analysis_19
  · refine lv_iload_n hx hb dX13_analysis_9 rfl (lv_at hl 2 rfl) ?_
    refine lv_bipush (v := 11) hx hb dX13_analysis_10 (by decide) ?_
    refine lv_icmp_le (tgt := 20) hx hb dX13_analysis_12 (by decide) (fun c2 => ?_) (fun c2 => ?_)
    · refine lv_iload_n hx hb dX13_analysis_20 rfl (lv_at hl 1 rfl) ?_
      refine lv_if_lt (tgt := 32) hx hb dX13_analysis_21 (by decide) (fun c3 => ?_) (fun c3 => ?_)
      · refine lv_iconst (v := (-1)) hx hb dX13_analysis_32 (by decide) ?_
        exact pq_iret hx hb hr hlocks rfl hW ⟨F_m0, 0, rfl, E_m0.one (i := 0) rfl, Or.inr ⟨rfl, (pz_X13_analysis_2 n1 n2 c1 c2 c3), rfl⟩⟩ dX13_analysis_33
      · refine lv_iload_n hx hb dX13_analysis_24 rfl (lv_at hl 1 rfl) ?_
        refine lv_aload_n hx hb dX13_analysis_25 rfl (lv_at hl 0 rfl) ?_
        refine pq_get (own := RX13) (ci := 13) (C := RX13) (T := TX13) (N := 229) (k := 132) (v := .int 0) hx hb hpp pi13 rfl hown hG hW 0 rfl E_m0 32 rfl (by decide) pp132 dX13_analysis_26 ?_
        refine lv_icmp_lt (tgt := 34) hx hb dX13_analysis_29 (by decide) (fun c4 => (pz_X13_analysis_3 n1 n2 c1 c2 c3 c4).elim) (fun _ => ?_)
        refine lv_iconst (v := (-1)) hx hb dX13_analysis_32 (by decide) ?_
        exact pq_iret hx hb hr hlocks rfl hW ⟨F_m0, 0, rfl, E_m0.one (i := 0) rfl, Or.inr ⟨rfl, (pz_X13_analysis_4 n1 n2 c1 c2 c3), rfl⟩⟩ dX13_analysis_33
    · refine lv_aload_n hx hb dX13_analysis_15 rfl (lv_at hl 0 rfl) ?_
      refine pq_calli hW [0] [] (by decide) rfl rfl (fun f9 hw9 hC9 => va_runV (C := RX13) (As := []) (rest := []) ⟨hx, hb, hml, hown, hts⟩ (c_X13_bad l D cy _ L f9 m0 F_m0 hC9 E_m0) (cwV 0 hts (pp_gV pp24 pp23 pp25 pp26 pp20) rfl rfl rfl pd_X13_bad ⟨Nat.le_of_ble_eq_true rfl, Nat.le_of_ble_eq_true rfl⟩) (pq_preV hG hw9 hC9 (j := 0) rfl rfl) rfl rfl hl.1 rfl (lv_room (Nat.le_of_ble_eq_true rfl)) dX13_analysis_16 ⟨Nat.le_of_ble_eq_true rfl, Nat.le_of_ble_eq_true rfl⟩) (fun r cs1 H locs hP hW => ?_)
      obtain ⟨F_m0, rfl, rfl, E_m0⟩ := hP
      have hW : pq_W D _ s.heap L f _ [(m0, .inr (13, F_m0))] H locs := hW
      exact pq_iret hx hb hr hlocks rfl hW ⟨F_m0, 1, rfl, E_m0.one (i := 0) rfl, Or.inl ⟨rfl, (pz_X13_analysis_5 n2 c1 c2)⟩⟩ dX13_analysis_19
