set_option maxHeartbeats 4000000 in
set_option maxRecDepth 100000 in
/-- TongueHouse$Store.mark on a new object -/
theorem c_X8_mark (l : Launch) (D : va_G) (cy : Nat → ClassId) (sz : Nat) (L : List Nat) (f : Nat → va_E) (q1 q2 q21 q4 q6 q8 q15 : Nat) (F_q1 : List Value) (F_q2 : List Value) (g_q21 : Nat → Int32) (F_q4 : List Value) (F_q6 : List Value) (F_q8 : List Value) (hC : pq_C L f [(q1, .inr (8, F_q1)), (q2, .inr (4, F_q2)), (q21, .inl (cy 1, 159, .inl g_q21)), (q4, .inr (4, F_q4)), (q6, .inr (4, F_q6)), (q8, .inr (4, F_q8)), (q15, .inl (cy 1, 96, .inl (fun _ => 0)))]) (E_q1 : pq_E 21 F_q1 [(0, .ref q2), (1, .ref q4), (2, .ref q6), (3, .ref q8), (5, .int (-1)), (10, .ref q15), (13, .int 0), (17, .int 0), (18, .int 0), (19, .ref q21)]) (E_q2 : pq_E 2 F_q2 [(1, .int 0)]) (E_q4 : pq_E 2 F_q4 [(1, .int 0)]) (E_q6 : pq_E 2 F_q6 [(1, .int 0)]) (E_q8 : pq_E 2 F_q8 [(1, .int 0)]) : Met l yX8_mark (Cond.code yX8_mark cX8_mark 2 none :: pp_ws) ({ frames := 2, cells := 0, slots := 0, locals := 60 }) (pw_Pc D cy [.ref q1] sz L f) (pq_Qv D sz L f [q1, q2, q21, q4, q6, q8, q15] (fun cs1 => (∃ (F_q1 : List Value) (g_q21 : Nat → Int32), cs1 = [(q1, .inr (8, F_q1)), (q2, .inr (4, F_q2)), (q21, .inl (cy 1, 159, .inl g_q21)), (q4, .inr (4, F_q4)), (q6, .inr (4, F_q6)), (q8, .inr (4, F_q8)), (q15, .inl (cy 1, 96, .inl (fun _ => 0)))] ∧ pq_E 21 F_q1 [(0, .ref q2), (1, .ref q4), (2, .ref q6), (3, .ref q8), (5, .int (-1)), (10, .ref q15), (13, .int 0), (17, .int 0), (18, .int 0), (19, .ref q21)]))) 0 0 (pw_A L f sz) := by
  refine Met.ofW (cc := cX8_mark) (maxL := 2) (ret := none) (by decide) rfl ?_
  intro p e s m args below meth c s₁ B hml hv
  obtain ⟨rfl, hsz, hG, hP, hD0⟩ := hv
  have hx := B.exec
  have hb := B.bytes
  have hr := B.returns
  have hts := atoms_spec (ws := Cond.code yX8_mark cX8_mark 2 none :: pp_ws) B.pre
  have hpp := fun (w : Cond) (h : w ∈ pp_ws) => hts w (List.mem_cons_of_mem _ h)
  have hown : s.vm.findClass RX8 = some m.cls := findClass_of_methodNamed B.named
  have hlocks := B.notSynchronized
  have hw := pw_start (cy := cy) hsz hP hD0
  have hW := pq_start (as := [q1, q2, q21, q4, q6, q8, q15]) hw hC rfl
  have hl := lv_entry ([.ref q1]) (n := 2) (Nat.le_of_ble_eq_true rfl)
  rw [lg_entry_eq]
  generalize (lg_sl ([.ref q1]) ++ List.replicate (2 - (lg_sl ([.ref q1])).length) Slot.unset).toArray = ls at hl ⊢
  have hl : lv_has ls 2 [(0, .ref q1)] := hl
  refine lv_aload_n hx hb dX8_mark_0 rfl (lv_at hl 0 rfl) ?_
  refine lv_iconst (v := 0) hx hb dX8_mark_1 (by decide) ?_
  refine pq_put (own := RX8) (ci := 8) (C := RX8) (T := TX8) (N := 21) (kv' := [(0, .ref q2), (1, .ref q4), (2, .ref q6), (3, .ref q8), (5, .int (-1)), (10, .ref q15), (13, .int 0), (17, .int 0), (18, .int 0), (19, .ref q21)]) hx hb hpp pi8 tyX8 tyX8_ok nmX8 rfl hown hG hW 0 rfl E_q1 18 (by decide) rfl rfl rfl rfl pp30 dX8_mark_2 (fun F_q1 H locs hW E_q1 => ?_)
  have hW : pq_W D _ s.heap L f _ [(q1, .inr (8, F_q1)), (q2, .inr (4, F_q2)), (q21, .inl (cy 1, 159, .inl g_q21)), (q4, .inr (4, F_q4)), (q6, .inr (4, F_q6)), (q8, .inr (4, F_q8)), (q15, .inl (cy 1, 96, .inl (fun _ => 0)))] H locs := hW
  refine lv_aload_n hx hb dX8_mark_5 rfl (lv_at hl 0 rfl) ?_
  refine pq_get (own := RX8) (ci := 8) (C := RX8) (T := TX8) (N := 21) (k := 19) (v := .ref q21) hx hb hpp pi8 rfl hown hG hW 0 rfl E_q1 9 rfl (by decide) pp31 dX8_mark_6 ?_
  refine lv_iconst (v := 0) hx hb dX8_mark_9 (by decide) ?_
  refine lv_aload_n hx hb dX8_mark_10 rfl (lv_at hl 0 rfl) ?_
  refine pq_get (own := RX8) (ci := 8) (C := RX8) (T := TX8) (N := 21) (k := 0) (v := .ref q2) hx hb hpp pi8 rfl hown hG hW 0 rfl E_q1 0 rfl (by decide) pp32 dX8_mark_11 ?_
  refine pq_get (own := RX8) (ci := 4) (C := RX4) (T := TX4) (N := 2) (k := 1) (v := .int 0) hx hb hpp pi4 rfl hown hG hW 1 rfl E_q2 0 rfl (by decide) pp33 dX8_mark_14 ?_
  refine pq_iast hx hb hG hW 2 rfl (vp_in_iff.mpr ⟨by decide, by decide⟩) dX8_mark_17 (fun H locs hW => ?_)
  have hW : pq_W D _ s.heap L f _ [(q1, .inr (8, F_q1)), (q2, .inr (4, F_q2)), (q21, .inl (cy 1, 159, .inl _)), (q4, .inr (4, F_q4)), (q6, .inr (4, F_q6)), (q8, .inr (4, F_q8)), (q15, .inl (cy 1, 96, .inl (fun _ => 0)))] H locs := hW
  refine lv_aload_n hx hb dX8_mark_18 rfl (lv_at hl 0 rfl) ?_
  refine pq_get (own := RX8) (ci := 8) (C := RX8) (T := TX8) (N := 21) (k := 19) (v := .ref q21) hx hb hpp pi8 rfl hown hG hW 0 rfl E_q1 9 rfl (by decide) pp31 dX8_mark_19 ?_
  refine lv_iconst (v := 1) hx hb dX8_mark_22 (by decide) ?_
  refine lv_aload_n hx hb dX8_mark_23 rfl (lv_at hl 0 rfl) ?_
  refine pq_get (own := RX8) (ci := 8) (C := RX8) (T := TX8) (N := 21) (k := 1) (v := .ref q4) hx hb hpp pi8 rfl hown hG hW 0 rfl E_q1 1 rfl (by decide) pp34 dX8_mark_24 ?_
  refine pq_get (own := RX8) (ci := 4) (C := RX4) (T := TX4) (N := 2) (k := 1) (v := .int 0) hx hb hpp pi4 rfl hown hG hW 3 rfl E_q4 0 rfl (by decide) pp33 dX8_mark_27 ?_
  refine pq_iast hx hb hG hW 2 rfl (vp_in_iff.mpr ⟨by decide, by decide⟩) dX8_mark_30 (fun H locs hW => ?_)
  have hW : pq_W D _ s.heap L f _ [(q1, .inr (8, F_q1)), (q2, .inr (4, F_q2)), (q21, .inl (cy 1, 159, .inl _)), (q4, .inr (4, F_q4)), (q6, .inr (4, F_q6)), (q8, .inr (4, F_q8)), (q15, .inl (cy 1, 96, .inl (fun _ => 0)))] H locs := hW
  refine lv_aload_n hx hb dX8_mark_31 rfl (lv_at hl 0 rfl) ?_
  refine pq_get (own := RX8) (ci := 8) (C := RX8) (T := TX8) (N := 21) (k := 19) (v := .ref q21) hx hb hpp pi8 rfl hown hG hW 0 rfl E_q1 9 rfl (by decide) pp31 dX8_mark_32 ?_
  refine lv_iconst (v := 2) hx hb dX8_mark_35 (by decide) ?_
  refine lv_aload_n hx hb dX8_mark_36 rfl (lv_at hl 0 rfl) ?_
  refine pq_get (own := RX8) (ci := 8) (C := RX8) (T := TX8) (N := 21) (k := 2) (v := .ref q6) hx hb hpp pi8 rfl hown hG hW 0 rfl E_q1 2 rfl (by decide) pp35 dX8_mark_37 ?_
  refine pq_get (own := RX8) (ci := 4) (C := RX4) (T := TX4) (N := 2) (k := 1) (v := .int 0) hx hb hpp pi4 rfl hown hG hW 4 rfl E_q6 0 rfl (by decide) pp33 dX8_mark_40 ?_
  refine pq_iast hx hb hG hW 2 rfl (vp_in_iff.mpr ⟨by decide, by decide⟩) dX8_mark_43 (fun H locs hW => ?_)
  have hW : pq_W D _ s.heap L f _ [(q1, .inr (8, F_q1)), (q2, .inr (4, F_q2)), (q21, .inl (cy 1, 159, .inl _)), (q4, .inr (4, F_q4)), (q6, .inr (4, F_q6)), (q8, .inr (4, F_q8)), (q15, .inl (cy 1, 96, .inl (fun _ => 0)))] H locs := hW
  refine lv_aload_n hx hb dX8_mark_44 rfl (lv_at hl 0 rfl) ?_
  refine pq_get (own := RX8) (ci := 8) (C := RX8) (T := TX8) (N := 21) (k := 19) (v := .ref q21) hx hb hpp pi8 rfl hown hG hW 0 rfl E_q1 9 rfl (by decide) pp31 dX8_mark_45 ?_
  refine lv_iconst (v := 3) hx hb dX8_mark_48 (by decide) ?_
  refine lv_aload_n hx hb dX8_mark_49 rfl (lv_at hl 0 rfl) ?_
  refine pq_get (own := RX8) (ci := 8) (C := RX8) (T := TX8) (N := 21) (k := 3) (v := .ref q8) hx hb hpp pi8 rfl hown hG hW 0 rfl E_q1 3 rfl (by decide) pp36 dX8_mark_50 ?_
  refine pq_get (own := RX8) (ci := 4) (C := RX4) (T := TX4) (N := 2) (k := 1) (v := .int 0) hx hb hpp pi4 rfl hown hG hW 5 rfl E_q8 0 rfl (by decide) pp33 dX8_mark_53 ?_
  refine pq_iast hx hb hG hW 2 rfl (vp_in_iff.mpr ⟨by decide, by decide⟩) dX8_mark_56 (fun H locs hW => ?_)
  have hW : pq_W D _ s.heap L f _ [(q1, .inr (8, F_q1)), (q2, .inr (4, F_q2)), (q21, .inl (cy 1, 159, .inl _)), (q4, .inr (4, F_q4)), (q6, .inr (4, F_q6)), (q8, .inr (4, F_q8)), (q15, .inl (cy 1, 96, .inl (fun _ => 0)))] H locs := hW
  refine lv_aload_n hx hb dX8_mark_57 rfl (lv_at hl 0 rfl) ?_
  refine pq_get (own := RX8) (ci := 8) (C := RX8) (T := TX8) (N := 21) (k := 19) (v := .ref q21) hx hb hpp pi8 rfl hown hG hW 0 rfl E_q1 9 rfl (by decide) pp31 dX8_mark_58 ?_
  refine lv_iconst (v := 4) hx hb dX8_mark_61 (by decide) ?_
  refine lv_aload_n hx hb dX8_mark_62 rfl (lv_at hl 0 rfl) ?_
  refine pq_get (own := RX8) (ci := 8) (C := RX8) (T := TX8) (N := 21) (k := 13) (v := .int 0) hx hb hpp pi8 rfl hown hG hW 0 rfl E_q1 6 rfl (by decide) pp37 dX8_mark_63 ?_
  refine pq_iast hx hb hG hW 2 rfl (vp_in_iff.mpr ⟨by decide, by decide⟩) dX8_mark_66 (fun H locs hW => ?_)
  have hW : pq_W D _ s.heap L f _ [(q1, .inr (8, F_q1)), (q2, .inr (4, F_q2)), (q21, .inl (cy 1, 159, .inl _)), (q4, .inr (4, F_q4)), (q6, .inr (4, F_q6)), (q8, .inr (4, F_q8)), (q15, .inl (cy 1, 96, .inl (fun _ => 0)))] H locs := hW
  refine lv_aload_n hx hb dX8_mark_67 rfl (lv_at hl 0 rfl) ?_
  refine pq_get (own := RX8) (ci := 8) (C := RX8) (T := TX8) (N := 21) (k := 19) (v := .ref q21) hx hb hpp pi8 rfl hown hG hW 0 rfl E_q1 9 rfl (by decide) pp31 dX8_mark_68 ?_
  refine lv_iconst (v := 5) hx hb dX8_mark_71 (by decide) ?_
  refine lv_aload_n hx hb dX8_mark_72 rfl (lv_at hl 0 rfl) ?_
  refine pq_get (own := RX8) (ci := 8) (C := RX8) (T := TX8) (N := 21) (k := 17) (v := .int 0) hx hb hpp pi8 rfl hown hG hW 0 rfl E_q1 7 rfl (by decide) pp38 dX8_mark_73 ?_
  refine pq_iast hx hb hG hW 2 rfl (vp_in_iff.mpr ⟨by decide, by decide⟩) dX8_mark_76 (fun H locs hW => ?_)
  have hW : pq_W D _ s.heap L f _ [(q1, .inr (8, F_q1)), (q2, .inr (4, F_q2)), (q21, .inl (cy 1, 159, .inl _)), (q4, .inr (4, F_q4)), (q6, .inr (4, F_q6)), (q8, .inr (4, F_q8)), (q15, .inl (cy 1, 96, .inl (fun _ => 0)))] H locs := hW
  refine lv_aload_n hx hb dX8_mark_77 rfl (lv_at hl 0 rfl) ?_
  refine pq_get (own := RX8) (ci := 8) (C := RX8) (T := TX8) (N := 21) (k := 19) (v := .ref q21) hx hb hpp pi8 rfl hown hG hW 0 rfl E_q1 9 rfl (by decide) pp31 dX8_mark_78 ?_
  refine lv_bipush (v := 6) hx hb dX8_mark_81 (by decide) ?_
  refine lv_aload_n hx hb dX8_mark_83 rfl (lv_at hl 0 rfl) ?_
  refine pq_get (own := RX8) (ci := 8) (C := RX8) (T := TX8) (N := 21) (k := 5) (v := .int (-1)) hx hb hpp pi8 rfl hown hG hW 0 rfl E_q1 4 rfl (by decide) pp39 dX8_mark_84 ?_
  refine pq_iast hx hb hG hW 2 rfl (vp_in_iff.mpr ⟨by decide, by decide⟩) dX8_mark_87 (fun H locs hW => ?_)
  have hW : pq_W D _ s.heap L f _ [(q1, .inr (8, F_q1)), (q2, .inr (4, F_q2)), (q21, .inl (cy 1, 159, .inl _)), (q4, .inr (4, F_q4)), (q6, .inr (4, F_q6)), (q8, .inr (4, F_q8)), (q15, .inl (cy 1, 96, .inl (fun _ => 0)))] H locs := hW
  refine lv_iconst (v := 0) hx hb dX8_mark_88 (by decide) ?_
  refine lv_istore_n (lv' := [(1, .int 0), (0, .ref q1)]) hx hb dX8_mark_89 rfl hl (by decide) rfl (fun ls hl => ?_)
  refine lv_iload_n hx hb dX8_mark_90 rfl (lv_at hl 0 rfl) ?_
  refine lv_aload_n hx hb dX8_mark_91 rfl (lv_at hl 1 rfl) ?_
  refine pq_get (own := RX8) (ci := 8) (C := RX8) (T := TX8) (N := 21) (k := 3) (v := .ref q8) hx hb hpp pi8 rfl hown hG hW 0 rfl E_q1 3 rfl (by decide) pp36 dX8_mark_92 ?_
  refine pq_get (own := RX8) (ci := 4) (C := RX4) (T := TX4) (N := 2) (k := 1) (v := .int 0) hx hb hpp pi4 rfl hown hG hW 5 rfl E_q8 0 rfl (by decide) pp33 dX8_mark_95 ?_
  refine lv_icmp_ge (tgt := 127) hx hb dX8_mark_98 (by decide) (fun _ => ?_) (fun c9 => absurd c9 (by decide))
  refine lv_aload_n hx hb dX8_mark_127 rfl (lv_at hl 1 rfl) ?_
  refine pq_get (own := RX8) (ci := 8) (C := RX8) (T := TX8) (N := 21) (k := 10) (v := .ref q15) hx hb hpp pi8 rfl hown hG hW 0 rfl E_q1 5 rfl (by decide) pp40 dX8_mark_128 ?_
  refine lv_iconst (v := 0) hx hb dX8_mark_131 (by decide) ?_
  refine lv_aload_n hx hb dX8_mark_132 rfl (lv_at hl 1 rfl) ?_
  refine pq_get (own := RX8) (ci := 8) (C := RX8) (T := TX8) (N := 21) (k := 19) (v := .ref q21) hx hb hpp pi8 rfl hown hG hW 0 rfl E_q1 9 rfl (by decide) pp31 dX8_mark_133 ?_
  refine lv_bipush (v := 63) hx hb dX8_mark_136 (by decide) ?_
  refine lv_bipush (v := 96) hx hb dX8_mark_138 (by decide) ?_
  refine pq_copyi hx hb (hml.trans hl.1.symm) hown (hpp _ pp41) (hpp _ pp42) (hpp _ pp43) (hpp _ pp44) hG hW 6 2 rfl rfl (by decide) (by decide) (by decide) (by decide) (by decide) (fun _ _ => rfl) (Nat.le_of_ble_eq_true rfl) (Nat.le_of_ble_eq_true rfl) dX8_mark_140 (fun H locs hW => ?_)
  have hW : pq_W D _ s.heap L f _ [(q1, .inr (8, F_q1)), (q2, .inr (4, F_q2)), (q21, .inl (cy 1, 159, .inl _)), (q4, .inr (4, F_q4)), (q6, .inr (4, F_q6)), (q8, .inr (4, F_q8)), (q15, .inl (cy 1, 96, .inl (fun _ => 0)))] H locs := hW
  exact pq_vret hx hb hr hlocks hW ⟨_, _, rfl, E_q1⟩ dX8_mark_143
set_option maxHeartbeats 4000000 in
set_option maxRecDepth 100000 in
/-- TongueHouse$Text.advance on a new object -/
theorem c_X9_advance (l : Launch) (D : va_G) (cy : Nat → ClassId) (sz : Nat) (L : List Nat) (f : Nat → va_E) {q24 : Nat} (q23 : Nat) (F_q23 : List Value) (hC : pq_C L f [(q23, .inr (9, F_q23))]) (E_q23 : pq_E 10 F_q23 [(0, .ref q24), (1, .int 0), (5, .int 0), (6, .int 0), (7, .int 0)]) : Met l yX9_advance (Cond.code yX9_advance cX9_advance 3 none :: pp_ws) ({ frames := 0, cells := 0, slots := 0, locals := 0 }) (pw_Pc D cy [.ref q23] sz L f) (pq_Qv D sz L f [q23] (fun cs1 => (∃ (F_q23 : List Value), cs1 = [(q23, .inr (9, F_q23))] ∧ pq_E 10 F_q23 [(0, .ref q24), (1, .int 0), (5, .int 0), (6, .int 0), (7, .int 4)]))) 0 0 (pw_A L f sz) := by
  refine Met.ofW (cc := cX9_advance) (maxL := 3) (ret := none) (by decide) rfl ?_
  intro p e s m args below meth c s₁ B hml hv
  obtain ⟨rfl, hsz, hG, hP, hD0⟩ := hv
  have hx := B.exec
  have hb := B.bytes
  have hr := B.returns
  have hts := atoms_spec (ws := Cond.code yX9_advance cX9_advance 3 none :: pp_ws) B.pre
  have hpp := fun (w : Cond) (h : w ∈ pp_ws) => hts w (List.mem_cons_of_mem _ h)
  have hown : s.vm.findClass RX9 = some m.cls := findClass_of_methodNamed B.named
  have hlocks := B.notSynchronized
  have hw := pw_start (cy := cy) hsz hP hD0
  have hW := pq_start (as := [q23]) hw hC rfl
  have hl := lv_entry ([.ref q23]) (n := 3) (Nat.le_of_ble_eq_true rfl)
  rw [lg_entry_eq]
  generalize (lg_sl ([.ref q23]) ++ List.replicate (3 - (lg_sl ([.ref q23])).length) Slot.unset).toArray = ls at hl ⊢
  have hl : lv_has ls 3 [(0, .ref q23)] := hl
  refine lv_aload_n hx hb dX9_advance_0 rfl (lv_at hl 0 rfl) ?_
  refine pq_get (own := RX9) (ci := 9) (C := RX9) (T := TX9) (N := 10) (k := 6) (v := .int 0) hx hb hpp pi9 rfl hown hG hW 0 rfl E_q23 3 rfl (by decide) pp51 dX9_advance_1 ?_
  refine lv_istore_n (lv' := [(1, .int 0), (0, .ref q23)]) hx hb dX9_advance_4 rfl hl (by decide) rfl (fun ls hl => ?_)
  refine lv_iload_n hx hb dX9_advance_5 rfl (lv_at hl 0 rfl) ?_
  refine lv_aload_n hx hb dX9_advance_6 rfl (lv_at hl 1 rfl) ?_
  refine pq_get (own := RX9) (ci := 9) (C := RX9) (T := TX9) (N := 10) (k := 1) (v := .int 0) hx hb hpp pi9 rfl hown hG hW 0 rfl E_q23 1 rfl (by decide) pp2 dX9_advance_7 ?_
  refine lv_icmp_ge (tgt := 30) hx hb dX9_advance_10 (by decide) (fun _ => ?_) (fun c9 => absurd c9 (by decide))
  refine lv_aload_n hx hb dX9_advance_30 rfl (lv_at hl 1 rfl) ?_
  refine lv_iload_n hx hb dX9_advance_31 rfl (lv_at hl 0 rfl) ?_
  refine pq_put (own := RX9) (ci := 9) (C := RX9) (T := TX9) (N := 10) (kv' := [(0, .ref q24), (1, .int 0), (5, .int 0), (6, .int 0), (7, .int 0)]) hx hb hpp pi9 tyX9 tyX9_ok nmX9 rfl hown hG hW 0 rfl E_q23 5 (by decide) rfl rfl rfl rfl pp52 dX9_advance_32 (fun F_q23 H locs hW E_q23 => ?_)
  have hW : pq_W D _ s.heap L f _ [(q23, .inr (9, F_q23))] H locs := hW
  refine lv_iload_n hx hb dX9_advance_35 rfl (lv_at hl 0 rfl) ?_
  refine lv_aload_n hx hb dX9_advance_36 rfl (lv_at hl 1 rfl) ?_
  refine pq_get (own := RX9) (ci := 9) (C := RX9) (T := TX9) (N := 10) (k := 1) (v := .int 0) hx hb hpp pi9 rfl hown hG hW 0 rfl E_q23 1 rfl (by decide) pp2 dX9_advance_37 ?_
  refine lv_icmp_lt (tgt := 65) hx hb dX9_advance_40 (by decide) (fun c9 => absurd c9 (by decide)) (fun _ => ?_)
  refine lv_aload_n hx hb dX9_advance_43 rfl (lv_at hl 1 rfl) ?_
  refine lv_iconst (v := 4) hx hb dX9_advance_44 (by decide) ?_
  refine pq_put (own := RX9) (ci := 9) (C := RX9) (T := TX9) (N := 10) (kv' := [(0, .ref q24), (1, .int 0), (5, .int 0), (6, .int 0), (7, .int 4)]) hx hb hpp pi9 tyX9 tyX9_ok nmX9 rfl hown hG hW 0 rfl E_q23 7 (by decide) rfl rfl rfl rfl pp53 dX9_advance_45 (fun F_q23 H locs hW E_q23 => ?_)
  have hW : pq_W D _ s.heap L f _ [(q23, .inr (9, F_q23))] H locs := hW
  refine lv_aload_n hx hb dX9_advance_48 rfl (lv_at hl 1 rfl) ?_
  refine lv_aload_n hx hb dX9_advance_49 rfl (lv_at hl 1 rfl) ?_
  refine pq_get (own := RX9) (ci := 9) (C := RX9) (T := TX9) (N := 10) (k := 1) (v := .int 0) hx hb hpp pi9 rfl hown hG hW 0 rfl E_q23 1 rfl (by decide) pp2 dX9_advance_50 ?_
  refine pq_put (own := RX9) (ci := 9) (C := RX9) (T := TX9) (N := 10) (kv' := [(0, .ref q24), (1, .int 0), (5, .int 0), (6, .int 0), (7, .int 4)]) hx hb hpp pi9 tyX9 tyX9_ok nmX9 rfl hown hG hW 0 rfl E_q23 5 (by decide) rfl rfl rfl rfl pp52 dX9_advance_53 (fun F_q23 H locs hW E_q23 => ?_)
  have hW : pq_W D _ s.heap L f _ [(q23, .inr (9, F_q23))] H locs := hW
  refine lv_aload_n hx hb dX9_advance_56 rfl (lv_at hl 1 rfl) ?_
  refine lv_aload_n hx hb dX9_advance_57 rfl (lv_at hl 1 rfl) ?_
  refine pq_get (own := RX9) (ci := 9) (C := RX9) (T := TX9) (N := 10) (k := 1) (v := .int 0) hx hb hpp pi9 rfl hown hG hW 0 rfl E_q23 1 rfl (by decide) pp2 dX9_advance_58 ?_
  refine pq_put (own := RX9) (ci := 9) (C := RX9) (T := TX9) (N := 10) (kv' := [(0, .ref q24), (1, .int 0), (5, .int 0), (6, .int 0), (7, .int 4)]) hx hb hpp pi9 tyX9 tyX9_ok nmX9 rfl hown hG hW 0 rfl E_q23 6 (by decide) rfl rfl rfl rfl pp51 dX9_advance_61 (fun F_q23 H locs hW E_q23 => ?_)
  have hW : pq_W D _ s.heap L f _ [(q23, .inr (9, F_q23))] H locs := hW
  exact pq_vret hx hb hr hlocks hW ⟨_, rfl, E_q23⟩ dX9_advance_64
set_option maxHeartbeats 4000000 in
set_option maxRecDepth 100000 in
/-- TongueHouse$Text.rewind on a new object -/
theorem c_X9_rewind (l : Launch) (D : va_G) (cy : Nat → ClassId) (sz : Nat) (L : List Nat) (f : Nat → va_E) {q24 : Nat} (q23 : Nat) (F_q23 : List Value) (hC : pq_C L f [(q23, .inr (9, F_q23))]) (E_q23 : pq_E 10 F_q23 [(0, .ref q24), (1, .int 0), (5, .int 0), (6, .int 0), (7, .int 0)]) : Met l yX9_rewind (Cond.code yX9_rewind cX9_rewind 1 none :: pp_ws) ({ frames := 1, cells := 0, slots := 0, locals := 22 }) (pw_Pc D cy [.ref q23] sz L f) (pq_Qv D sz L f [q23] (fun cs1 => (∃ (F_q23 : List Value), cs1 = [(q23, .inr (9, F_q23))] ∧ pq_E 10 F_q23 [(0, .ref q24), (1, .int 0), (5, .int 0), (6, .int 0), (7, .int 4)]))) 0 0 (pw_A L f sz) := by
  refine Met.ofW (cc := cX9_rewind) (maxL := 1) (ret := none) (by decide) rfl ?_
  intro p e s m args below meth c s₁ B hml hv
  obtain ⟨rfl, hsz, hG, hP, hD0⟩ := hv
  have hx := B.exec
  have hb := B.bytes
  have hr := B.returns
  have hts := atoms_spec (ws := Cond.code yX9_rewind cX9_rewind 1 none :: pp_ws) B.pre
  have hpp := fun (w : Cond) (h : w ∈ pp_ws) => hts w (List.mem_cons_of_mem _ h)
  have hown : s.vm.findClass RX9 = some m.cls := findClass_of_methodNamed B.named
  have hlocks := B.notSynchronized
  have hw := pw_start (cy := cy) hsz hP hD0
  have hW := pq_start (as := [q23]) hw hC rfl
  have hl := lv_entry ([.ref q23]) (n := 1) (Nat.le_of_ble_eq_true rfl)
  rw [lg_entry_eq]
  generalize (lg_sl ([.ref q23]) ++ List.replicate (1 - (lg_sl ([.ref q23])).length) Slot.unset).toArray = ls at hl ⊢
  have hl : lv_has ls 1 [(0, .ref q23)] := hl
  refine lv_aload_n hx hb dX9_rewind_0 rfl (lv_at hl 0 rfl) ?_
  refine lv_iconst (v := 0) hx hb dX9_rewind_1 (by decide) ?_
  refine pq_put (own := RX9) (ci := 9) (C := RX9) (T := TX9) (N := 10) (kv' := [(0, .ref q24), (1, .int 0), (5, .int 0), (6, .int 0), (7, .int 0)]) hx hb hpp pi9 tyX9 tyX9_ok nmX9 rfl hown hG hW 0 rfl E_q23 6 (by decide) rfl rfl rfl rfl pp51 dX9_rewind_2 (fun F_q23 H locs hW E_q23 => ?_)
  have hW : pq_W D _ s.heap L f _ [(q23, .inr (9, F_q23))] H locs := hW
  refine lv_aload_n hx hb dX9_rewind_5 rfl (lv_at hl 0 rfl) ?_
  refine pq_callv hW [0] [] (by decide) rfl rfl (fun f9 hw9 hC9 => va_runV (C := RX9) (As := []) (rest := []) ⟨hx, hb, hml, hown, hts⟩ (c_X9_advance l D cy _ L f9 q23 F_q23 hC9 E_q23) (cwV 0 hts (pp_gV pp55 pp54 pp56 pp57 pp8) rfl rfl rfl pd_X9_advance ⟨Nat.le_of_ble_eq_true rfl, Nat.le_of_ble_eq_true rfl⟩) (pq_preV hG hw9 hC9 (j := 0) rfl rfl) rfl rfl hl.1 rfl (lv_room (Nat.le_of_ble_eq_true rfl)) dX9_rewind_6 ⟨Nat.le_of_ble_eq_true rfl, Nat.le_of_ble_eq_true rfl⟩) (fun cs1 H locs hP hW => ?_)
  obtain ⟨F_q23, rfl, E_q23⟩ := hP
  have hW : pq_W D _ s.heap L f _ [(q23, .inr (9, F_q23))] H locs := hW
  exact pq_vret hx hb hr hlocks hW ⟨_, rfl, E_q23⟩ dX9_rewind_9
set_option maxHeartbeats 4000000 in
set_option maxRecDepth 100000 in
/-- TongueHouse$Reader.begin on a new object -/
theorem c_X6_begin (l : Launch) (D : va_G) (cy : Nat → ClassId) (sz : Nat) (L : List Nat) (f : Nat → va_E) {q24 : Nat} (q39 q1 q2 q21 q4 q6 q8 q15 q23 : Nat) (F_q39 : List Value) (F_q1 : List Value) (F_q2 : List Value) (g_q21 : Nat → Int32) (F_q4 : List Value) (F_q6 : List Value) (F_q8 : List Value) (F_q23 : List Value) (hC : pq_C L f [(q39, .inr (6, F_q39)), (q1, .inr (8, F_q1)), (q2, .inr (4, F_q2)), (q21, .inl (cy 1, 159, .inl g_q21)), (q4, .inr (4, F_q4)), (q6, .inr (4, F_q6)), (q8, .inr (4, F_q8)), (q15, .inl (cy 1, 96, .inl (fun _ => 0))), (q23, .inr (9, F_q23))]) (E_q39 : pq_E 19 F_q39 [(0, .ref q1), (1, .ref q23), (3, .int 0)]) (E_q1 : pq_E 21 F_q1 [(0, .ref q2), (1, .ref q4), (2, .ref q6), (3, .ref q8), (5, .int (-1)), (10, .ref q15), (13, .int 0), (17, .int 0), (18, .int 0), (19, .ref q21)]) (E_q2 : pq_E 2 F_q2 [(1, .int 0)]) (E_q4 : pq_E 2 F_q4 [(1, .int 0)]) (E_q6 : pq_E 2 F_q6 [(1, .int 0)]) (E_q8 : pq_E 2 F_q8 [(1, .int 0)]) (E_q23 : pq_E 10 F_q23 [(0, .ref q24), (1, .int 0), (5, .int 0), (6, .int 0), (7, .int 0)]) : Met l yX6_begin (Cond.code yX6_begin cX6_begin 1 none :: pp_ws) ({ frames := 3, cells := 0, slots := 0, locals := 81 }) (pw_Pc D cy [.ref q39] sz L f) (pq_Qv D sz L f [q39, q1, q2, q21, q4, q6, q8, q15, q23] (fun cs1 => (∃ (F_q39 : List Value) (F_q1 : List Value) (g_q21 : Nat → Int32) (F_q23 : List Value), cs1 = [(q39, .inr (6, F_q39)), (q1, .inr (8, F_q1)), (q2, .inr (4, F_q2)), (q21, .inl (cy 1, 159, .inl g_q21)), (q4, .inr (4, F_q4)), (q6, .inr (4, F_q6)), (q8, .inr (4, F_q8)), (q15, .inl (cy 1, 96, .inl (fun _ => 0))), (q23, .inr (9, F_q23))] ∧ pq_E 19 F_q39 [(0, .ref q1), (1, .ref q23), (3, .int 0)] ∧ pq_E 21 F_q1 [(0, .ref q2), (1, .ref q4), (2, .ref q6), (3, .ref q8), (5, .int (-1)), (10, .ref q15), (13, .int 0), (17, .int 0), (18, .int 0), (19, .ref q21)] ∧ pq_E 10 F_q23 [(0, .ref q24), (1, .int 0), (5, .int 0), (6, .int 0), (7, .int 4)]))) 0 0 (pw_A L f sz) := by
  refine Met.ofW (cc := cX6_begin) (maxL := 1) (ret := none) (by decide) rfl ?_
  intro p e s m args below meth c s₁ B hml hv
  obtain ⟨rfl, hsz, hG, hP, hD0⟩ := hv
  have hx := B.exec
  have hb := B.bytes
  have hr := B.returns
  have hts := atoms_spec (ws := Cond.code yX6_begin cX6_begin 1 none :: pp_ws) B.pre
  have hpp := fun (w : Cond) (h : w ∈ pp_ws) => hts w (List.mem_cons_of_mem _ h)
  have hown : s.vm.findClass RX6 = some m.cls := findClass_of_methodNamed B.named
  have hlocks := B.notSynchronized
  have hw := pw_start (cy := cy) hsz hP hD0
  have hW := pq_start (as := [q39, q1, q2, q21, q4, q6, q8, q15, q23]) hw hC rfl
  have hl := lv_entry ([.ref q39]) (n := 1) (Nat.le_of_ble_eq_true rfl)
  rw [lg_entry_eq]
  generalize (lg_sl ([.ref q39]) ++ List.replicate (1 - (lg_sl ([.ref q39])).length) Slot.unset).toArray = ls at hl ⊢
  have hl : lv_has ls 1 [(0, .ref q39)] := hl
  refine lv_aload_n hx hb dX6_begin_0 rfl (lv_at hl 0 rfl) ?_
  refine lv_iconst (v := 0) hx hb dX6_begin_1 (by decide) ?_
  refine pq_put (own := RX6) (ci := 6) (C := RX6) (T := TX6) (N := 19) (kv' := [(0, .ref q1), (1, .ref q23), (3, .int 0)]) hx hb hpp pi6 tyX6 tyX6_ok nmX6 rfl hown hG hW 0 rfl E_q39 3 (by decide) rfl rfl rfl rfl pp28 dX6_begin_2 (fun F_q39 H locs hW E_q39 => ?_)
  have hW : pq_W D _ s.heap L f _ [(q39, .inr (6, F_q39)), (q1, .inr (8, F_q1)), (q2, .inr (4, F_q2)), (q21, .inl (cy 1, 159, .inl g_q21)), (q4, .inr (4, F_q4)), (q6, .inr (4, F_q6)), (q8, .inr (4, F_q8)), (q15, .inl (cy 1, 96, .inl (fun _ => 0))), (q23, .inr (9, F_q23))] H locs := hW
  refine lv_aload_n hx hb dX6_begin_5 rfl (lv_at hl 0 rfl) ?_
  refine pq_get (own := RX6) (ci := 6) (C := RX6) (T := TX6) (N := 19) (k := 0) (v := .ref q1) hx hb hpp pi6 rfl hown hG hW 0 rfl E_q39 0 rfl (by decide) pp29 dX6_begin_6 ?_
  refine pq_callv hW [1, 2, 3, 4, 5, 6, 7] [0, 8] (by decide) rfl rfl (fun f9 hw9 hC9 => va_runV (C := RX8) (As := []) (rest := []) ⟨hx, hb, hml, hown, hts⟩ (c_X8_mark l D cy _ L f9 q1 q2 q21 q4 q6 q8 q15 F_q1 F_q2 _ F_q4 F_q6 F_q8 hC9 E_q1 E_q2 E_q4 E_q6 E_q8) (cwV 0 hts (pp_gV pp46 pp45 pp47 pp48 pp49) rfl rfl rfl pd_X8_mark ⟨Nat.le_of_ble_eq_true rfl, Nat.le_of_ble_eq_true rfl⟩) (pq_preV hG hw9 hC9 (j := 0) rfl rfl) rfl rfl hl.1 rfl (lv_room (Nat.le_of_ble_eq_true rfl)) dX6_begin_9 ⟨Nat.le_of_ble_eq_true rfl, Nat.le_of_ble_eq_true rfl⟩) (fun cs1 H locs hP hW => ?_)
  obtain ⟨F_q1, g_q21, rfl, E_q1⟩ := hP
  have hW : pq_W D _ s.heap L f _ [(q1, .inr (8, F_q1)), (q2, .inr (4, F_q2)), (q21, .inl (cy 1, 159, .inl _)), (q4, .inr (4, F_q4)), (q6, .inr (4, F_q6)), (q8, .inr (4, F_q8)), (q15, .inl (cy 1, 96, .inl (fun _ => 0))), (q39, .inr (6, F_q39)), (q23, .inr (9, F_q23))] H locs := hW
  refine lv_aload_n hx hb dX6_begin_12 rfl (lv_at hl 0 rfl) ?_
  refine pq_get (own := RX6) (ci := 6) (C := RX6) (T := TX6) (N := 19) (k := 1) (v := .ref q23) hx hb hpp pi6 rfl hown hG hW 7 rfl E_q39 1 rfl (by decide) pp50 dX6_begin_13 ?_
  refine pq_callv hW [8] [0, 1, 2, 3, 4, 5, 6, 7] (by decide) rfl rfl (fun f9 hw9 hC9 => va_runV (C := RX9) (As := []) (rest := []) ⟨hx, hb, hml, hown, hts⟩ (c_X9_rewind l D cy _ L f9 q23 F_q23 hC9 E_q23) (cwV 0 hts (pp_gV pp59 pp58 pp60 pp61 pp8) rfl rfl rfl pd_X9_rewind ⟨Nat.le_of_ble_eq_true rfl, Nat.le_of_ble_eq_true rfl⟩) (pq_preV hG hw9 hC9 (j := 0) rfl rfl) rfl rfl hl.1 rfl (lv_room (Nat.le_of_ble_eq_true rfl)) dX6_begin_16 ⟨Nat.le_of_ble_eq_true rfl, Nat.le_of_ble_eq_true rfl⟩) (fun cs1 H locs hP hW => ?_)
  obtain ⟨F_q23, rfl, E_q23⟩ := hP
  have hW : pq_W D _ s.heap L f _ [(q23, .inr (9, F_q23)), (q1, .inr (8, F_q1)), (q2, .inr (4, F_q2)), (q21, .inl (cy 1, 159, .inl _)), (q4, .inr (4, F_q4)), (q6, .inr (4, F_q6)), (q8, .inr (4, F_q8)), (q15, .inl (cy 1, 96, .inl (fun _ => 0))), (q39, .inr (6, F_q39))] H locs := hW
  exact pq_vret hx hb hr hlocks (hW.pick (cs2 := [(q39, .inr (6, F_q39)), (q1, .inr (8, F_q1)), (q2, .inr (4, F_q2)), (q21, .inl (cy 1, 159, .inl _)), (q4, .inr (4, F_q4)), (q6, .inr (4, F_q6)), (q8, .inr (4, F_q8)), (q15, .inl (cy 1, 96, .inl (fun _ => 0))), (q23, .inr (9, F_q23))]) [8, 1, 2, 3, 4, 5, 6, 7, 0] (by decide) rfl) ⟨_, _, _, _, rfl, E_q39, E_q1, E_q23⟩ dX6_begin_19
set_option maxHeartbeats 4000000 in
set_option maxRecDepth 100000 in
/-- TongueHouse.module on a new object -/
theorem c_X12_module (l : Launch) (D : va_G) (cy : Nat → ClassId) (sz : Nat) (L : List Nat) (f : Nat → va_E) {q24 q27 q48 q61 q100 q114 q115 : Nat} (h0 q39 q1 q2 q21 q4 q6 q8 q15 q23 : Nat) (F_h0 : List Value) (F_q39 : List Value) (F_q1 : List Value) (F_q2 : List Value) (g_q21 : Nat → Int32) (F_q4 : List Value) (F_q6 : List Value) (F_q8 : List Value) (F_q23 : List Value) (hC : pq_C L f [(h0, .inr (12, F_h0)), (q39, .inr (6, F_q39)), (q1, .inr (8, F_q1)), (q2, .inr (4, F_q2)), (q21, .inl (cy 1, 159, .inl g_q21)), (q4, .inr (4, F_q4)), (q6, .inr (4, F_q6)), (q8, .inr (4, F_q8)), (q15, .inl (cy 1, 96, .inl (fun _ => 0))), (q23, .inr (9, F_q23))]) (E_h0 : pq_E 17 F_h0 [(0, .ref q1), (1, .ref q23), (2, .ref q27), (5, .ref q39), (6, .ref q48), (7, .ref q61), (10, .ref q100), (11, .ref q114), (12, .ref q115), (15, .int 0)]) (E_q39 : pq_E 19 F_q39 [(0, .ref q1), (1, .ref q23), (3, .int 0)]) (E_q1 : pq_E 21 F_q1 [(0, .ref q2), (1, .ref q4), (2, .ref q6), (3, .ref q8), (5, .int (-1)), (10, .ref q15), (13, .int 0), (17, .int 0), (18, .int 0), (19, .ref q21)]) (E_q2 : pq_E 2 F_q2 [(1, .int 0)]) (E_q4 : pq_E 2 F_q4 [(1, .int 0)]) (E_q6 : pq_E 2 F_q6 [(1, .int 0)]) (E_q8 : pq_E 2 F_q8 [(1, .int 0)]) (E_q23 : pq_E 10 F_q23 [(0, .ref q24), (1, .int 0), (5, .int 0), (6, .int 0), (7, .int 0)]) : Met l yX12_module (Cond.code yX12_module cX12_module 2 (some .int) :: pp_ws) ({ frames := 4, cells := 0, slots := 0, locals := 101 }) (pw_Pc D cy [.ref h0] sz L f) (pq_Qi D sz L f [h0, q39, q1, q2, q21, q4, q6, q8, q15, q23] (fun r cs1 => r = 0 ∧ ¬ (False) ∧ cs1 = [])) 0 0 (pw_A L f sz) := by
  refine Met.ofW (cc := cX12_module) (maxL := 2) (ret := (some .int)) (by decide) rfl ?_
  intro p e s m args below meth c s₁ B hml hv
  obtain ⟨rfl, hsz, hG, hP, hD0⟩ := hv
  have hx := B.exec
  have hb := B.bytes
  have hr := B.returns
  have hts := atoms_spec (ws := Cond.code yX12_module cX12_module 2 (some .int) :: pp_ws) B.pre
  have hpp := fun (w : Cond) (h : w ∈ pp_ws) => hts w (List.mem_cons_of_mem _ h)
  have hown : s.vm.findClass RX12 = some m.cls := findClass_of_methodNamed B.named
  have hlocks := B.notSynchronized
  have hw := pw_start (cy := cy) hsz hP hD0
  have hW := pq_start (as := [h0, q39, q1, q2, q21, q4, q6, q8, q15, q23]) hw hC rfl
  have hl := lv_entry ([.ref h0]) (n := 2) (Nat.le_of_ble_eq_true rfl)
  rw [lg_entry_eq]
  generalize (lg_sl ([.ref h0]) ++ List.replicate (2 - (lg_sl ([.ref h0])).length) Slot.unset).toArray = ls at hl ⊢
  have hl : lv_has ls 2 [(0, .ref h0)] := hl
  refine lv_aload_n hx hb dX12_module_0 rfl (lv_at hl 0 rfl) ?_
  refine pq_get (own := RX12) (ci := 12) (C := RX12) (T := TX12) (N := 17) (k := 5) (v := .ref q39) hx hb hpp pi12 rfl hown hG hW 0 rfl E_h0 3 rfl (by decide) pp27 dX12_module_1 ?_
  refine pq_callv hW [1, 2, 3, 4, 5, 6, 7, 8, 9] [0] (by decide) rfl rfl (fun f9 hw9 hC9 => va_runV (C := RX6) (As := []) (rest := []) ⟨hx, hb, hml, hown, hts⟩ (c_X6_begin l D cy _ L f9 q39 q1 q2 q21 q4 q6 q8 q15 q23 F_q39 F_q1 F_q2 _ F_q4 F_q6 F_q8 F_q23 hC9 E_q39 E_q1 E_q2 E_q4 E_q6 E_q8 E_q23) (cwV 0 hts (pp_gV pp63 pp62 pp64 pp65 pp66) rfl rfl rfl pd_X6_begin ⟨Nat.le_of_ble_eq_true rfl, Nat.le_of_ble_eq_true rfl⟩) (pq_preV hG hw9 hC9 (j := 0) rfl rfl) rfl rfl hl.1 rfl (lv_room (Nat.le_of_ble_eq_true rfl)) dX12_module_4 ⟨Nat.le_of_ble_eq_true rfl, Nat.le_of_ble_eq_true rfl⟩) (fun cs1 H locs hP hW => ?_)
  obtain ⟨F_q39, F_q1, g_q21, F_q23, rfl, E_q39, E_q1, E_q23⟩ := hP
  have hW : pq_W D _ s.heap L f _ [(q39, .inr (6, F_q39)), (q1, .inr (8, F_q1)), (q2, .inr (4, F_q2)), (q21, .inl (cy 1, 159, .inl _)), (q4, .inr (4, F_q4)), (q6, .inr (4, F_q6)), (q8, .inr (4, F_q8)), (q15, .inl (cy 1, 96, .inl (fun _ => 0))), (q23, .inr (9, F_q23)), (h0, .inr (12, F_h0))] H locs := hW
  refine lv_iconst (v := 0) hx hb dX12_module_7 (by decide) ?_
  refine lv_istore_n (lv' := [(1, .int 0), (0, .ref h0)]) hx hb dX12_module_8 rfl hl (by decide) rfl (fun ls hl => ?_)
  refine lv_iload_n hx hb dX12_module_9 rfl (lv_at hl 0 rfl) ?_
  refine lv_sipush (v := 1000) hx hb dX12_module_10 (by decide) ?_
  refine lv_icmp_ge (tgt := 68) hx hb dX12_module_13 (by decide) (fun c9 => absurd c9 (by decide)) (fun _ => ?_)
  refine lv_aload_n hx hb dX12_module_16 rfl (lv_at hl 1 rfl) ?_
  refine pq_get (own := RX12) (ci := 12) (C := RX12) (T := TX12) (N := 17) (k := 1) (v := .ref q23) hx hb hpp pi12 rfl hown hG hW 9 rfl E_h0 1 rfl (by decide) pp0 dX12_module_17 ?_
  refine pq_get (own := RX12) (ci := 9) (C := RX9) (T := TX9) (N := 10) (k := 7) (v := .int 4) hx hb hpp pi9 rfl hown hG hW 8 rfl E_q23 4 rfl (by decide) pp67 dX12_module_20 ?_
  refine lv_iconst (v := 4) hx hb dX12_module_23 (by decide) ?_
  refine lv_icmp_eq (tgt := 68) hx hb dX12_module_24 (by decide) (fun _ => ?_) (fun c9 => absurd c9 (by decide))
  refine lv_aload_n hx hb dX12_module_68 rfl (lv_at hl 1 rfl) ?_
  refine pq_get (own := RX12) (ci := 12) (C := RX12) (T := TX12) (N := 17) (k := 1) (v := .ref q23) hx hb hpp pi12 rfl hown hG hW 9 rfl E_h0 1 rfl (by decide) pp0 dX12_module_69 ?_
  refine lv_iconst (v := 0) hx hb dX12_module_72 (by decide) ?_
  refine pq_put (own := RX12) (ci := 9) (C := RX9) (T := TX9) (N := 10) (kv' := [(0, .ref q24), (1, .int 0), (5, .int 0), (6, .int 0), (7, .int 4)]) hx hb hpp pi9 tyX9 tyX9_ok nmX9 rfl hown hG hW 8 rfl E_q23 1 (by decide) rfl rfl rfl rfl pp1 dX12_module_73 (fun F_q23 H locs hW E_q23 => ?_)
  have hW : pq_W D _ s.heap L f _ [(q39, .inr (6, F_q39)), (q1, .inr (8, F_q1)), (q2, .inr (4, F_q2)), (q21, .inl (cy 1, 159, .inl _)), (q4, .inr (4, F_q4)), (q6, .inr (4, F_q6)), (q8, .inr (4, F_q8)), (q15, .inl (cy 1, 96, .inl (fun _ => 0))), (q23, .inr (9, F_q23)), (h0, .inr (12, F_h0))] H locs := hW
  refine lv_iload_n hx hb dX12_module_76 rfl (lv_at hl 0 rfl) ?_
  exact pq_iret hx hb hr hlocks rfl (hW.pick (cs2 := []) [] (by decide) rfl) ⟨rfl, not_false, rfl⟩ dX12_module_77
set_option maxHeartbeats 4000000 in
set_option maxRecDepth 100000 in
/-- TongueHouse.rule on a new object -/
theorem c_X12_rule (l : Launch) (D : va_G) (cy : Nat → ClassId) (sz : Nat) (L : List Nat) (f : Nat → va_E) {q1 q23 q27 q48 q61 q100 q114 q115 : Nat} (h0 q39 : Nat) (F_h0 : List Value) (F_q39 : List Value) (hC : pq_C L f [(h0, .inr (12, F_h0)), (q39, .inr (6, F_q39))]) (E_h0 : pq_E 17 F_h0 [(0, .ref q1), (1, .ref q23), (2, .ref q27), (5, .ref q39), (6, .ref q48), (7, .ref q61), (10, .ref q100), (11, .ref q114), (12, .ref q115), (15, .int 0)]) (E_q39 : pq_E 19 F_q39 [(0, .ref q1), (1, .ref q23), (3, .int 0)]) : Met l yX12_rule (Cond.code yX12_rule cX12_rule 1 (some .int) :: pp_ws) ({ frames := 0, cells := 0, slots := 0, locals := 0 }) (pw_Pc D cy [.ref h0] sz L f) (pq_Qi D sz L f [h0, q39] (fun r cs1 => r = 0 ∧ ¬ (False) ∧ cs1 = [])) 0 0 (pw_A L f sz) := by
  refine Met.ofW (cc := cX12_rule) (maxL := 1) (ret := (some .int)) (by decide) rfl ?_
  intro p e s m args below meth c s₁ B hml hv
  obtain ⟨rfl, hsz, hG, hP, hD0⟩ := hv
  have hx := B.exec
  have hb := B.bytes
  have hr := B.returns
  have hts := atoms_spec (ws := Cond.code yX12_rule cX12_rule 1 (some .int) :: pp_ws) B.pre
  have hpp := fun (w : Cond) (h : w ∈ pp_ws) => hts w (List.mem_cons_of_mem _ h)
  have hown : s.vm.findClass RX12 = some m.cls := findClass_of_methodNamed B.named
  have hlocks := B.notSynchronized
  have hw := pw_start (cy := cy) hsz hP hD0
  have hW := pq_start (as := [h0, q39]) hw hC rfl
  have hl := lv_entry ([.ref h0]) (n := 1) (Nat.le_of_ble_eq_true rfl)
  rw [lg_entry_eq]
  generalize (lg_sl ([.ref h0]) ++ List.replicate (1 - (lg_sl ([.ref h0])).length) Slot.unset).toArray = ls at hl ⊢
  have hl : lv_has ls 1 [(0, .ref h0)] := hl
  refine lv_aload_n hx hb dX12_rule_0 rfl (lv_at hl 0 rfl) ?_
  refine pq_get (own := RX12) (ci := 12) (C := RX12) (T := TX12) (N := 17) (k := 5) (v := .ref q39) hx hb hpp pi12 rfl hown hG hW 0 rfl E_h0 3 rfl (by decide) pp27 dX12_rule_1 ?_
  refine pq_get (own := RX12) (ci := 6) (C := RX6) (T := TX6) (N := 19) (k := 3) (v := .int 0) hx hb hpp pi6 rfl hown hG hW 1 rfl E_q39 2 rfl (by decide) pp107 dX12_rule_4 ?_
  exact pq_iret hx hb hr hlocks rfl (hW.pick (cs2 := []) [] (by decide) rfl) ⟨rfl, not_false, rfl⟩ dX12_rule_7
theorem pz_X12_out_1 (n1 : Int32) (c1 : ¬ n1 < 0) (c2 : ¬ 0 ≤ n1) : False := by
  have k0 : (0 : Int32).toInt = 0 := by decide
  simp only [Int32.lt_iff_toInt_lt, Int32.le_iff_toInt_le, ← Int32.toInt_inj] at c1 c2 ⊢
  omega
set_option maxHeartbeats 4000000 in
set_option maxRecDepth 100000 in
/-- TongueHouse.out on a new object -/
theorem c_X12_out (l : Launch) (D : va_G) (cy : Nat → ClassId) (sz : Nat) (L : List Nat) (f : Nat → va_E) {q1 q23 q28 q39 q48 q61 q100 q114 q115 : Nat} (h0 q27 : Nat) (F_h0 : List Value) (F_q27 : List Value) (n1 : Int32) (hC : pq_C L f [(h0, .inr (12, F_h0)), (q27, .inr (9, F_q27))]) (E_h0 : pq_E 17 F_h0 [(0, .ref q1), (1, .ref q23), (2, .ref q27), (5, .ref q39), (6, .ref q48), (7, .ref q61), (10, .ref q100), (11, .ref q114), (12, .ref q115), (15, .int 0)]) (E_q27 : pq_E 10 F_q27 [(0, .ref q28), (1, .int 0), (5, .int 0), (6, .int 0), (7, .int 0)]) : Met l yX12_out (Cond.code yX12_out cX12_out 2 (some .int) :: pp_ws) ({ frames := 0, cells := 0, slots := 0, locals := 0 }) (pw_Pc D cy [.ref h0, .int n1] sz L f) (pq_Qi D sz L f [h0, q27] (fun r cs1 => r = (-1) ∧ ¬ (False) ∧ cs1 = [])) 0 0 (pw_A L f sz) := by
  refine Met.ofW (cc := cX12_out) (maxL := 2) (ret := (some .int)) (by decide) rfl ?_
  intro p e s m args below meth c s₁ B hml hv
  obtain ⟨rfl, hsz, hG, hP, hD0⟩ := hv
  have hx := B.exec
  have hb := B.bytes
  have hr := B.returns
  have hts := atoms_spec (ws := Cond.code yX12_out cX12_out 2 (some .int) :: pp_ws) B.pre
  have hpp := fun (w : Cond) (h : w ∈ pp_ws) => hts w (List.mem_cons_of_mem _ h)
  have hown : s.vm.findClass RX12 = some m.cls := findClass_of_methodNamed B.named
  have hlocks := B.notSynchronized
  have hw := pw_start (cy := cy) hsz hP hD0
  have hW := pq_start (as := [h0, q27]) hw hC rfl
  have hl := lv_entry ([.ref h0, .int n1]) (n := 2) (Nat.le_of_ble_eq_true rfl)
  rw [lg_entry_eq]
  generalize (lg_sl ([.ref h0, .int n1]) ++ List.replicate (2 - (lg_sl ([.ref h0, .int n1])).length) Slot.unset).toArray = ls at hl ⊢
  have hl : lv_has ls 2 [(0, .ref h0), (1, .int n1)] := hl
  refine lv_iload_n hx hb dX12_out_0 rfl (lv_at hl 1 rfl) ?_
  refine lv_if_lt (tgt := 31) hx hb dX12_out_1 (by decide) (fun c1 => ?_) (fun c1 => ?_)
  · refine lv_iconst (v := (-1)) hx hb dX12_out_31 (by decide) ?_
    exact pq_iret hx hb hr hlocks rfl (hW.pick (cs2 := []) [] (by decide) rfl) ⟨rfl, not_false, rfl⟩ dX12_out_32
  · refine lv_iload_n hx hb dX12_out_4 rfl (lv_at hl 1 rfl) ?_
    refine lv_aload_n hx hb dX12_out_5 rfl (lv_at hl 0 rfl) ?_
    refine pq_get (own := RX12) (ci := 12) (C := RX12) (T := TX12) (N := 17) (k := 2) (v := .ref q27) hx hb hpp pi12 rfl hown hG hW 0 rfl E_h0 2 rfl (by decide) pp108 dX12_out_6 ?_
    refine pq_get (own := RX12) (ci := 9) (C := RX9) (T := TX9) (N := 10) (k := 1) (v := .int 0) hx hb hpp pi9 rfl hown hG hW 1 rfl E_q27 1 rfl (by decide) pp1 dX12_out_9 ?_
    refine lv_icmp_ge (tgt := 31) hx hb dX12_out_12 (by decide) (fun _ => ?_) (fun c2 => (pz_X12_out_1 n1 c1 c2).elim)
    refine lv_iconst (v := (-1)) hx hb dX12_out_31 (by decide) ?_
    exact pq_iret hx hb hr hlocks rfl (hW.pick (cs2 := []) [] (by decide) rfl) ⟨rfl, not_false, rfl⟩ dX12_out_32
set_option maxHeartbeats 4000000 in
set_option maxRecDepth 100000 in
/-- TongueHouse$Text.onlyName on a new object -/
theorem c_X9_onlyName (l : Launch) (D : va_G) (cy : Nat → ClassId) (sz : Nat) (L : List Nat) (f : Nat → va_E) {q24 : Nat} (q23 : Nat) (F_q23 : List Value) (hC : pq_C L f [(q23, .inr (9, F_q23))]) (E_q23 : pq_E 10 F_q23 [(0, .ref q24), (1, .int 0), (5, .int 0), (6, .int 0), (7, .int 0)]) : Met l yX9_onlyName (Cond.code yX9_onlyName cX9_onlyName 3 (some .long) :: pp_ws) ({ frames := 2, cells := 0, slots := 0, locals := 42 }) (pw_Pc D cy [.ref q23] sz L f) (pq_Ql D sz L f [q23] (fun r cs1 => (∃ (F_q23 : List Value), r = 0 ∧ cs1 = [(q23, .inr (9, F_q23))] ∧ pq_E 10 F_q23 [(0, .ref q24), (1, .int 0), (5, .int 0), (6, .int 0), (7, .int 4)]))) 0 0 (pw_A L f sz) := by
  refine Met.ofW (cc := cX9_onlyName) (maxL := 3) (ret := (some .long)) (by decide) rfl ?_
  intro p e s m args below meth c s₁ B hml hv
  obtain ⟨rfl, hsz, hG, hP, hD0⟩ := hv
  have hx := B.exec
  have hb := B.bytes
  have hr := B.returns
  have hts := atoms_spec (ws := Cond.code yX9_onlyName cX9_onlyName 3 (some .long) :: pp_ws) B.pre
  have hpp := fun (w : Cond) (h : w ∈ pp_ws) => hts w (List.mem_cons_of_mem _ h)
  have hown : s.vm.findClass RX9 = some m.cls := findClass_of_methodNamed B.named
  have hlocks := B.notSynchronized
  have hw := pw_start (cy := cy) hsz hP hD0
  have hW := pq_start (as := [q23]) hw hC rfl
  have hl := lv_entry ([.ref q23]) (n := 3) (Nat.le_of_ble_eq_true rfl)
  rw [lg_entry_eq]
  generalize (lg_sl ([.ref q23]) ++ List.replicate (3 - (lg_sl ([.ref q23])).length) Slot.unset).toArray = ls at hl ⊢
  have hl : lv_has ls 3 [(0, .ref q23)] := hl
  refine lv_aload_n hx hb dX9_onlyName_0 rfl (lv_at hl 0 rfl) ?_
  refine pq_callv hW [0] [] (by decide) rfl rfl (fun f9 hw9 hC9 => va_runV (C := RX9) (As := []) (rest := []) ⟨hx, hb, hml, hown, hts⟩ (c_X9_rewind l D cy _ L f9 q23 F_q23 hC9 E_q23) (cwV 0 hts (pp_gV pp59 pp112 pp60 pp61 pp8) rfl rfl rfl pd_X9_rewind ⟨Nat.le_of_ble_eq_true rfl, Nat.le_of_ble_eq_true rfl⟩) (pq_preV hG hw9 hC9 (j := 0) rfl rfl) rfl rfl hl.1 rfl (lv_room (Nat.le_of_ble_eq_true rfl)) dX9_onlyName_1 ⟨Nat.le_of_ble_eq_true rfl, Nat.le_of_ble_eq_true rfl⟩) (fun cs1 H locs hP hW => ?_)
  obtain ⟨F_q23, rfl, E_q23⟩ := hP
  have hW : pq_W D _ s.heap L f _ [(q23, .inr (9, F_q23))] H locs := hW
  refine lv_aload_n hx hb dX9_onlyName_4 rfl (lv_at hl 0 rfl) ?_
  refine pq_get (own := RX9) (ci := 9) (C := RX9) (T := TX9) (N := 10) (k := 7) (v := .int 4) hx hb hpp pi9 rfl hown hG hW 0 rfl E_q23 4 rfl (by decide) pp53 dX9_onlyName_5 ?_
  refine lv_iconst (v := 1) hx hb dX9_onlyName_8 (by decide) ?_
  refine lv_icmp_eq (tgt := 14) hx hb dX9_onlyName_9 (by decide) (fun c9 => absurd c9 (by decide)) (fun _ => ?_)
  refine lv_lconst (v := 0) hx hb dX9_onlyName_12 (by decide) ?_
  exact pq_lret hx hb hr hlocks hW ⟨_, rfl, rfl, E_q23⟩ dX9_onlyName_13
