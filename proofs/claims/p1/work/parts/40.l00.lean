set_option maxHeartbeats 4000000 in
set_option maxRecDepth 100000 in
/-- TongueHouseLaw.feed on a new object -/
theorem c_L_feed (l : Launch) (hst : l.stackTraces = false) (D : va_G) (cy : Nat → ClassId) (sa : Nat → Nat) (sz : Nat) (L : List Nat) (f : Nat → va_E) {q1 q27 q39 q48 q61 q100 q114 q115 : Nat} (h0 ou q23 q24 : Nat) (F_h0 : List Value) (g_ou : Nat → Int64) (F_q23 : List Value) (g_q24 : Nat → Int32) (n2 : Int32) (n3 : Int32) (n4 : Int32) (n5 : Int32) (n6 : Int32) (hC : pq_C L f [(h0, .inr (12, F_h0)), (ou, .inl (cy 2, 1, .inr (.inl g_ou))), (q23, .inr (9, F_q23)), (q24, .inl (cy 0, 1000, .inl g_q24))]) (E_h0 : pq_E 17 F_h0 [(0, .ref q1), (1, .ref q23), (2, .ref q27), (5, .ref q39), (6, .ref q48), (7, .ref q61), (10, .ref q100), (11, .ref q114), (12, .ref q115), (15, .int 0)]) (E_q23 : pq_E 10 F_q23 [(0, .ref q24), (1, .int 0), (5, .int 0), (6, .int 0), (7, .int 0)]) : vx_Met l yL_feed (Cond.codeWith yL_feed cL_feed 8 (some .int) [(0, 16, 19, 13)] :: pp_ws) ({ frames := 3, cells := 0, slots := 0, locals := 67 }) (px_Pc D cy sa [.ref h0, .int n2, .int n3, .int n4, .int n5, .int n6, .ref ou] sz L f) (pq_Qi D sz L f [h0, ou, q23, q24] (fun r cs1 => ∃ g1 : Nat → Int64, cs1 = [(ou, .inl (cy 2, 1, .inr (.inl g1)))] ∧ ((r = 1 ∧ (False)) ∨ (r = 0 ∧ ¬ (False) ∧ g1 0 = 20)))) (pq_T D sz L f [h0, ou, q23, q24] (fun _ _ => False)) 0 0 (pw_A L f sz) := by
  refine vx_ofWH (cc := cL_feed) (maxL := 8) (ret := (some .int)) (by decide) rfl ?_
  intro p e s m args below meth c s₁ B hml hv
  obtain ⟨rfl, hsz, hG, hX, hP, hD0⟩ := hv
  have hx := B.exec
  have hb := B.bytes
  have hr := B.returns
  have hts := atoms_spec (ws := Cond.codeWith yL_feed cL_feed 8 (some .int) [(0, 16, 19, 13)] :: pp_ws) B.pre
  have hpp := fun (w : Cond) (h : w ∈ pp_ws) => hts w (List.mem_cons_of_mem _ h)
  have hown : s.vm.findClass RL = some m.cls := findClass_of_methodNamed B.named
  have hlocks := B.notSynchronized
  have htab : tw_tab c [(0, 16, 19, 13)] := by
    obtain ⟨m', meth', c', h0', h1', h2', -, -, h5', -⟩ := Cond.codeWith_spec (hts (.codeWith yL_feed cL_feed 8 (some .int) [(0, 16, 19, 13)]) List.mem_cons_self)
    cases B.named.symm.trans h0'
    cases B.method.symm.trans h1'
    cases (Stand.of_body B).code.symm.trans h2'
    exact h5'
  have hw := pw_start (cy := cy) hsz hP hD0
  have hW := pq_start (as := [h0, ou, q23, q24]) hw hC rfl
  have hl := lv_entry ([.ref h0, .int n2, .int n3, .int n4, .int n5, .int n6, .ref ou]) (n := 8) (Nat.le_of_ble_eq_true rfl)
  rw [lg_entry_eq]
  generalize (lg_sl ([.ref h0, .int n2, .int n3, .int n4, .int n5, .int n6, .ref ou]) ++ List.replicate (8 - (lg_sl ([.ref h0, .int n2, .int n3, .int n4, .int n5, .int n6, .ref ou])).length) Slot.unset).toArray = ls at hl ⊢
  have hl : lv_has ls 8 [(0, .ref h0), (1, .int n2), (2, .int n3), (3, .int n4), (4, .int n5), (5, .int n6), (6, .ref ou)] := hl
  refine lv_aload hx hb dL_feed_0 (lv_at hl 6 rfl) ?_
  refine lv_iconst (v := 0) hx hb dL_feed_2 (by decide) ?_
  refine lv_aload_n hx hb dL_feed_3 rfl (lv_at hl 0 rfl) ?_
  refine lv_iload_n hx hb dL_feed_4 rfl (lv_at hl 1 rfl) ?_
  refine lv_iload_n hx hb dL_feed_5 rfl (lv_at hl 2 rfl) ?_
  refine lv_iload_n hx hb dL_feed_6 rfl (lv_at hl 3 rfl) ?_
  refine lv_iload hx hb dL_feed_7 (lv_at hl 4 rfl) ?_
  refine lv_iload hx hb dL_feed_9 (lv_at hl 5 rfl) ?_
  refine pq_calli hW [0, 2, 3] [1] (by decide) rfl rfl (fun f9 hw9 hC9 => va_runV (C := RX12) (As := [.int n2, .int n3, .int n4, .int n5, .int n6]) (rest := [.int 0, .ref ou]) ⟨hx, hb, hml, hown, hts⟩ (c_X12_feed l D cy _ L f9 h0 q23 q24 F_h0 F_q23 _ n2 n3 n4 n5 n6 hC9 E_h0 E_q23) (cwV 5 hts (pp_gV pp214 pp213 pp215 pp216 pp123) rfl rfl rfl pd_X12_feed ⟨Nat.le_of_ble_eq_true rfl, Nat.le_of_ble_eq_true rfl⟩) (pq_preV hG hw9 hC9 (j := 0) rfl rfl) rfl rfl hl.1 rfl (lv_room (Nat.le_of_ble_eq_true rfl)) dL_feed_11 ⟨Nat.le_of_ble_eq_true rfl, Nat.le_of_ble_eq_true rfl⟩) (fun r cs1 H locs hP hW => ?_)
  obtain ⟨rfl, hq, rfl⟩ := hP
  have hW : pq_W D _ s.heap L f _ [(ou, .inl (cy 2, 1, .inr (.inl g_ou)))] H locs := hW
  refine lv_i2l (v := 20) hx hb dL_feed_14 (by decide) ?_
  refine pq_last hx hb hG hW 0 rfl (vp_in_iff.mpr ⟨by decide, by decide⟩) dL_feed_15 (fun H locs hW => ?_)
  have hW : pq_W D _ s.heap L f _ [(ou, .inl (cy 2, 1, .inr (.inl _)))] H locs := hW
  refine lv_goto (tgt := 23) hx hb dL_feed_16 (by decide) ?_
  refine lv_iconst (v := 0) hx hb dL_feed_23 (by decide) ?_
  exact px_iret hx hb hr hlocks rfl hW ⟨_, rfl, Or.inr ⟨rfl, hq, rfl⟩⟩ (Nat.le_of_ble_eq_true rfl) (Nat.le_of_ble_eq_true rfl) dL_feed_24
set_option maxHeartbeats 4000000 in
set_option maxRecDepth 100000 in
/-- TongueHouseLaw.end on a new object -/
theorem c_L_end (l : Launch) (hst : l.stackTraces = false) (D : va_G) (cy : Nat → ClassId) (sa : Nat → Nat) (sz : Nat) (L : List Nat) (f : Nat → va_E) {q1 q24 q27 q39 q48 q61 q100 q114 q115 : Nat} (h0 ou q23 : Nat) (F_h0 : List Value) (g_ou : Nat → Int64) (F_q23 : List Value) (n2 : Int32) (hC : pq_C L f [(h0, .inr (12, F_h0)), (ou, .inl (cy 2, 1, .inr (.inl g_ou))), (q23, .inr (9, F_q23))]) (E_h0 : pq_E 17 F_h0 [(0, .ref q1), (1, .ref q23), (2, .ref q27), (5, .ref q39), (6, .ref q48), (7, .ref q61), (10, .ref q100), (11, .ref q114), (12, .ref q115), (15, .int 0)]) (E_q23 : pq_E 10 F_q23 [(0, .ref q24), (1, .int 0), (5, .int 0), (6, .int 0), (7, .int 0)]) : vx_Met l yL_end (Cond.codeWith yL_end cL_end 4 (some .int) [(0, 9, 12, 19)] :: pp_ws) ({ frames := 7, cells := 1, slots := 6, locals := 121 }) (px_Pc D cy sa [.ref h0, .int n2, .ref ou] sz L f) (pq_Qi D sz L f [h0, ou, q23] (fun r cs1 => ∃ g1 : Nat → Int64, cs1 = [(ou, .inl (cy 2, 1, .inr (.inl g1)))] ∧ ((r = 1 ∧ (n2 < 0 ∨ 0 < n2)) ∨ (r = 0 ∧ ¬ (n2 < 0 ∨ 0 < n2) ∧ g1 0 = n2.toInt64)))) (pq_T D sz L f [h0, ou, q23] (fun _ _ => False)) 1 6 (pw_A L f sz) := by
  refine vx_ofWH (cc := cL_end) (maxL := 4) (ret := (some .int)) (by decide) rfl ?_
  intro p e s m args below meth c s₁ B hml hv
  obtain ⟨rfl, hsz, hG, hX, hP, hD0⟩ := hv
  have hx := B.exec
  have hb := B.bytes
  have hr := B.returns
  have hts := atoms_spec (ws := Cond.codeWith yL_end cL_end 4 (some .int) [(0, 9, 12, 19)] :: pp_ws) B.pre
  have hpp := fun (w : Cond) (h : w ∈ pp_ws) => hts w (List.mem_cons_of_mem _ h)
  have hown : s.vm.findClass RL = some m.cls := findClass_of_methodNamed B.named
  have hlocks := B.notSynchronized
  have htab : tw_tab c [(0, 9, 12, 19)] := by
    obtain ⟨m', meth', c', h0', h1', h2', -, -, h5', -⟩ := Cond.codeWith_spec (hts (.codeWith yL_end cL_end 4 (some .int) [(0, 9, 12, 19)]) List.mem_cons_self)
    cases B.named.symm.trans h0'
    cases B.method.symm.trans h1'
    cases (Stand.of_body B).code.symm.trans h2'
    exact h5'
  have hw := pw_start (cy := cy) hsz hP hD0
  have hW := pq_start (as := [h0, ou, q23]) hw hC rfl
  have hl := lv_entry ([.ref h0, .int n2, .ref ou]) (n := 4) (Nat.le_of_ble_eq_true rfl)
  rw [lg_entry_eq]
  generalize (lg_sl ([.ref h0, .int n2, .ref ou]) ++ List.replicate (4 - (lg_sl ([.ref h0, .int n2, .ref ou])).length) Slot.unset).toArray = ls at hl ⊢
  have hl : lv_has ls 4 [(0, .ref h0), (1, .int n2), (2, .ref ou)] := hl
  refine lv_aload_n hx hb dL_end_0 rfl (lv_at hl 2 rfl) ?_
  refine lv_iconst (v := 0) hx hb dL_end_1 (by decide) ?_
  refine lv_aload_n hx hb dL_end_2 rfl (lv_at hl 0 rfl) ?_
  refine lv_iload_n hx hb dL_end_3 rfl (lv_at hl 1 rfl) ?_
  refine pq_xcalli hW [0, 2] [1] (by decide) rfl rfl (fun f9 hw9 hC9 => vx_runV (C := RX12) (As := [.int n2]) (rest := [.int 0, .ref ou]) ⟨hx, hb, hml, hown, hts⟩ (c_X12_end l hst D cy sa _ L f9 h0 q23 F_h0 F_q23 n2 hC9 E_h0 E_q23) (cwV 1 hts (pp_gV pp218 pp217 pp219 pp220 pp123) rfl rfl rfl pd_X12_end ⟨Nat.le_of_ble_eq_true rfl, Nat.le_of_ble_eq_true rfl⟩) (pq_xpreV hG hX hw9 hC9 (j := 0) rfl rfl) rfl rfl hl.1 rfl (lv_room (Nat.le_of_ble_eq_true rfl)) dL_end_4 ⟨Nat.le_of_ble_eq_true rfl, Nat.le_of_ble_eq_true rfl⟩) (fun E9 ce q9 cs1 H locs hP hW hce hcv hcl => ?_) (fun r cs1 H locs hP hW => ?_)
  · obtain ⟨rfl, hq, rfl⟩ := hP
    refine vx_catch1 (C := px_IAE) (name := "java/lang/IllegalArgumentException") htab hown (by decide) (by decide) (hpp _ pp221) (va_Nw.use rfl hX.2.1.1) hce hcv hcl ?_
    have hW : pq_W D _ s.heap L f _ [(ou, .inl (cy 2, 1, .inr (.inl g_ou)))] H locs := hW
    refine lv_astore_n (lv' := [(3, .ref q9), (0, .ref h0), (1, .int n2), (2, .ref ou)]) hx hb dL_end_12 rfl hl (by decide) rfl (fun ls hl => ?_)
    refine lv_iconst (v := 1) hx hb dL_end_13 (by decide) ?_
    exact px_iret hx hb hr hlocks rfl hW ⟨_, rfl, Or.inl ⟨rfl, hq⟩⟩ (Nat.le_of_ble_eq_true rfl) (Nat.le_of_ble_eq_true rfl) dL_end_14
  · obtain ⟨hr9, hq, rfl⟩ := hP
    rw [hr9]
    have hW : pq_W D _ s.heap L f _ [(ou, .inl (cy 2, 1, .inr (.inl g_ou)))] H locs := hW
    refine lv_i2l (v := n2.toInt64) hx hb dL_end_7 rfl ?_
    refine pq_last hx hb hG hW 0 rfl (vp_in_iff.mpr ⟨by decide, by decide⟩) dL_end_8 (fun H locs hW => ?_)
    have hW : pq_W D _ s.heap L f _ [(ou, .inl (cy 2, 1, .inr (.inl _)))] H locs := hW
    refine lv_goto (tgt := 15) hx hb dL_end_9 (by decide) ?_
    refine lv_iconst (v := 0) hx hb dL_end_15 (by decide) ?_
    exact px_iret hx hb hr hlocks rfl hW ⟨_, rfl, Or.inr ⟨rfl, hq, rfl⟩⟩ (Nat.le_of_ble_eq_true rfl) (Nat.le_of_ble_eq_true rfl) dL_end_16
set_option maxHeartbeats 4000000 in
set_option maxRecDepth 100000 in
/-- TongueHouseLaw.number on a new object -/
theorem c_L_number (l : Launch) (hst : l.stackTraces = false) (D : va_G) (cy : Nat → ClassId) (sa : Nat → Nat) (sz : Nat) (L : List Nat) (f : Nat → va_E) {q2 q4 q6 q15 q21 q24 q27 q39 q48 q61 q100 q114 q115 : Nat} (h0 ou q1 q23 q8 : Nat) (F_h0 : List Value) (g_ou : Nat → Int64) (F_q1 : List Value) (F_q23 : List Value) (F_q8 : List Value) (n2 : Int32) (n3 : Int32) (hC : pq_C L f [(h0, .inr (12, F_h0)), (ou, .inl (cy 2, 1, .inr (.inl g_ou))), (q1, .inr (8, F_q1)), (q23, .inr (9, F_q23)), (q8, .inr (4, F_q8))]) (E_h0 : pq_E 17 F_h0 [(0, .ref q1), (1, .ref q23), (2, .ref q27), (5, .ref q39), (6, .ref q48), (7, .ref q61), (10, .ref q100), (11, .ref q114), (12, .ref q115), (15, .int 0)]) (E_q1 : pq_E 21 F_q1 [(0, .ref q2), (1, .ref q4), (2, .ref q6), (3, .ref q8), (5, .int (-1)), (10, .ref q15), (13, .int 0), (17, .int 0), (18, .int 0), (19, .ref q21)]) (E_q23 : pq_E 10 F_q23 [(0, .ref q24), (1, .int 0), (5, .int 0), (6, .int 0), (7, .int 0)]) (E_q8 : pq_E 2 F_q8 [(1, .int 0)]) : vx_Met l yL_number (Cond.codeWith yL_number cL_number 5 (some .int) [(0, 10, 13, 19)] :: pp_ws) ({ frames := 8, cells := 1, slots := 6, locals := 146 }) (px_Pc D cy sa [.ref h0, .int n2, .int n3, .ref ou] sz L f) (pq_Qi D sz L f [h0, ou, q1, q23, q8] (fun r cs1 => ∃ g1 : Nat → Int64, cs1 = [(ou, .inl (cy 2, 1, .inr (.inl g1)))] ∧ ((r = 1 ∧ (n3 < 0 ∨ 2 < n3)) ∨ (r = 0 ∧ ¬ (n3 < 0 ∨ 2 < n3) ∧ g1 0 = (-1))))) (pq_T D sz L f [h0, ou, q1, q23, q8] (fun _ _ => False)) 1 6 (pw_A L f sz) := by
  refine vx_ofWH (cc := cL_number) (maxL := 5) (ret := (some .int)) (by decide) rfl ?_
  intro p e s m args below meth c s₁ B hml hv
  obtain ⟨rfl, hsz, hG, hX, hP, hD0⟩ := hv
  have hx := B.exec
  have hb := B.bytes
  have hr := B.returns
  have hts := atoms_spec (ws := Cond.codeWith yL_number cL_number 5 (some .int) [(0, 10, 13, 19)] :: pp_ws) B.pre
  have hpp := fun (w : Cond) (h : w ∈ pp_ws) => hts w (List.mem_cons_of_mem _ h)
  have hown : s.vm.findClass RL = some m.cls := findClass_of_methodNamed B.named
  have hlocks := B.notSynchronized
  have htab : tw_tab c [(0, 10, 13, 19)] := by
    obtain ⟨m', meth', c', h0', h1', h2', -, -, h5', -⟩ := Cond.codeWith_spec (hts (.codeWith yL_number cL_number 5 (some .int) [(0, 10, 13, 19)]) List.mem_cons_self)
    cases B.named.symm.trans h0'
    cases B.method.symm.trans h1'
    cases (Stand.of_body B).code.symm.trans h2'
    exact h5'
  have hw := pw_start (cy := cy) hsz hP hD0
  have hW := pq_start (as := [h0, ou, q1, q23, q8]) hw hC rfl
  have hl := lv_entry ([.ref h0, .int n2, .int n3, .ref ou]) (n := 5) (Nat.le_of_ble_eq_true rfl)
  rw [lg_entry_eq]
  generalize (lg_sl ([.ref h0, .int n2, .int n3, .ref ou]) ++ List.replicate (5 - (lg_sl ([.ref h0, .int n2, .int n3, .ref ou])).length) Slot.unset).toArray = ls at hl ⊢
  have hl : lv_has ls 5 [(0, .ref h0), (1, .int n2), (2, .int n3), (3, .ref ou)] := hl
  refine lv_aload_n hx hb dL_number_0 rfl (lv_at hl 3 rfl) ?_
  refine lv_iconst (v := 0) hx hb dL_number_1 (by decide) ?_
  refine lv_aload_n hx hb dL_number_2 rfl (lv_at hl 0 rfl) ?_
  refine lv_iload_n hx hb dL_number_3 rfl (lv_at hl 1 rfl) ?_
  refine lv_iload_n hx hb dL_number_4 rfl (lv_at hl 2 rfl) ?_
  refine pq_xcalli hW [0, 2, 3, 4] [1] (by decide) rfl rfl (fun f9 hw9 hC9 => vx_runV (C := RX12) (As := [.int n2, .int n3]) (rest := [.int 0, .ref ou]) ⟨hx, hb, hml, hown, hts⟩ (c_X12_number l hst D cy sa _ L f9 h0 q1 q23 q8 F_h0 F_q1 F_q23 F_q8 n2 n3 hC9 E_h0 E_q1 E_q23 E_q8) (cwV 2 hts (pp_gV pp223 pp222 pp224 pp225 pp123) rfl rfl rfl pd_X12_number ⟨Nat.le_of_ble_eq_true rfl, Nat.le_of_ble_eq_true rfl⟩) (pq_xpreV hG hX hw9 hC9 (j := 0) rfl rfl) rfl rfl hl.1 rfl (lv_room (Nat.le_of_ble_eq_true rfl)) dL_number_5 ⟨Nat.le_of_ble_eq_true rfl, Nat.le_of_ble_eq_true rfl⟩) (fun E9 ce q9 cs1 H locs hP hW hce hcv hcl => ?_) (fun r cs1 H locs hP hW => ?_)
  · obtain ⟨rfl, hq, rfl⟩ := hP
    refine vx_catch1 (C := px_IAE) (name := "java/lang/IllegalArgumentException") htab hown (by decide) (by decide) (hpp _ pp221) (va_Nw.use rfl hX.2.1.1) hce hcv hcl ?_
    have hW : pq_W D _ s.heap L f _ [(ou, .inl (cy 2, 1, .inr (.inl g_ou)))] H locs := hW
    refine lv_astore (lv' := [(4, .ref q9), (0, .ref h0), (1, .int n2), (2, .int n3), (3, .ref ou)]) hx hb dL_number_13 hl (by decide) rfl (fun ls hl => ?_)
    refine lv_iconst (v := 1) hx hb dL_number_15 (by decide) ?_
    exact px_iret hx hb hr hlocks rfl hW ⟨_, rfl, Or.inl ⟨rfl, hq⟩⟩ (Nat.le_of_ble_eq_true rfl) (Nat.le_of_ble_eq_true rfl) dL_number_16
  · obtain ⟨rfl, hq, rfl⟩ := hP
    have hW : pq_W D _ s.heap L f _ [(ou, .inl (cy 2, 1, .inr (.inl g_ou)))] H locs := hW
    refine lv_i2l (v := (-1)) hx hb dL_number_8 (by decide) ?_
    refine pq_last hx hb hG hW 0 rfl (vp_in_iff.mpr ⟨by decide, by decide⟩) dL_number_9 (fun H locs hW => ?_)
    have hW : pq_W D _ s.heap L f _ [(ou, .inl (cy 2, 1, .inr (.inl _)))] H locs := hW
    refine lv_goto (tgt := 17) hx hb dL_number_10 (by decide) ?_
    refine lv_iconst (v := 0) hx hb dL_number_17 (by decide) ?_
    exact px_iret hx hb hr hlocks rfl hW ⟨_, rfl, Or.inr ⟨rfl, hq, rfl⟩⟩ (Nat.le_of_ble_eq_true rfl) (Nat.le_of_ble_eq_true rfl) dL_number_18
set_option maxHeartbeats 4000000 in
set_option maxRecDepth 100000 in
/-- TongueHouseLaw.analysis on a new object -/
theorem c_L_analysis (l : Launch) (hst : l.stackTraces = false) (D : va_G) (cy : Nat → ClassId) (sa : Nat → Nat) (sz : Nat) (L : List Nat) (f : Nat → va_E) {q1 q23 q27 q39 q48 q61 q114 q115 : Nat} (h0 ou q100 : Nat) (F_h0 : List Value) (g_ou : Nat → Int64) (F_q100 : List Value) (n2 : Int32) (n3 : Int32) (hC : pq_C L f [(h0, .inr (12, F_h0)), (ou, .inl (cy 2, 1, .inr (.inl g_ou))), (q100, .inr (1, F_q100))]) (E_h0 : pq_E 17 F_h0 [(0, .ref q1), (1, .ref q23), (2, .ref q27), (5, .ref q39), (6, .ref q48), (7, .ref q61), (10, .ref q100), (11, .ref q114), (12, .ref q115), (15, .int 0)]) (E_q100 : pq_E 19 F_q100 [(2, .int 0), (4, .int 0), (9, .int 0), (14, .int 0)]) : vx_Met l yL_analysis (Cond.codeWith yL_analysis cL_analysis 5 (some .int) [(0, 10, 13, 19)] :: pp_ws) ({ frames := 7, cells := 1, slots := 6, locals := 122 }) (px_Pc D cy sa [.ref h0, .int n2, .int n3, .ref ou] sz L f) (pq_Qi D sz L f [h0, ou, q100] (fun r cs1 => ∃ g1 : Nat → Int64, cs1 = [(ou, .inl (cy 2, 1, .inr (.inl g1)))] ∧ ((r = 1 ∧ (n3 < 0 ∨ 11 < n3)) ∨ (r = 0 ∧ ¬ (n3 < 0 ∨ 11 < n3) ∧ g1 0 = (-1))))) (pq_T D sz L f [h0, ou, q100] (fun _ _ => False)) 1 6 (pw_A L f sz) := by
  refine vx_ofWH (cc := cL_analysis) (maxL := 5) (ret := (some .int)) (by decide) rfl ?_
  intro p e s m args below meth c s₁ B hml hv
  obtain ⟨rfl, hsz, hG, hX, hP, hD0⟩ := hv
  have hx := B.exec
  have hb := B.bytes
  have hr := B.returns
  have hts := atoms_spec (ws := Cond.codeWith yL_analysis cL_analysis 5 (some .int) [(0, 10, 13, 19)] :: pp_ws) B.pre
  have hpp := fun (w : Cond) (h : w ∈ pp_ws) => hts w (List.mem_cons_of_mem _ h)
  have hown : s.vm.findClass RL = some m.cls := findClass_of_methodNamed B.named
  have hlocks := B.notSynchronized
  have htab : tw_tab c [(0, 10, 13, 19)] := by
    obtain ⟨m', meth', c', h0', h1', h2', -, -, h5', -⟩ := Cond.codeWith_spec (hts (.codeWith yL_analysis cL_analysis 5 (some .int) [(0, 10, 13, 19)]) List.mem_cons_self)
    cases B.named.symm.trans h0'
    cases B.method.symm.trans h1'
    cases (Stand.of_body B).code.symm.trans h2'
    exact h5'
  have hw := pw_start (cy := cy) hsz hP hD0
  have hW := pq_start (as := [h0, ou, q100]) hw hC rfl
  have hl := lv_entry ([.ref h0, .int n2, .int n3, .ref ou]) (n := 5) (Nat.le_of_ble_eq_true rfl)
  rw [lg_entry_eq]
  generalize (lg_sl ([.ref h0, .int n2, .int n3, .ref ou]) ++ List.replicate (5 - (lg_sl ([.ref h0, .int n2, .int n3, .ref ou])).length) Slot.unset).toArray = ls at hl ⊢
  have hl : lv_has ls 5 [(0, .ref h0), (1, .int n2), (2, .int n3), (3, .ref ou)] := hl
  refine lv_aload_n hx hb dL_analysis_0 rfl (lv_at hl 3 rfl) ?_
  refine lv_iconst (v := 0) hx hb dL_analysis_1 (by decide) ?_
  refine lv_aload_n hx hb dL_analysis_2 rfl (lv_at hl 0 rfl) ?_
  refine lv_iload_n hx hb dL_analysis_3 rfl (lv_at hl 1 rfl) ?_
  refine lv_iload_n hx hb dL_analysis_4 rfl (lv_at hl 2 rfl) ?_
  refine pq_xcalli hW [0, 2] [1] (by decide) rfl rfl (fun f9 hw9 hC9 => vx_runV (C := RX12) (As := [.int n2, .int n3]) (rest := [.int 0, .ref ou]) ⟨hx, hb, hml, hown, hts⟩ (c_X12_analysis l hst D cy sa _ L f9 h0 q100 F_h0 F_q100 n2 n3 hC9 E_h0 E_q100) (cwV 2 hts (pp_gV pp227 pp226 pp228 pp229 pp123) rfl rfl rfl pd_X12_analysis ⟨Nat.le_of_ble_eq_true rfl, Nat.le_of_ble_eq_true rfl⟩) (pq_xpreV hG hX hw9 hC9 (j := 0) rfl rfl) rfl rfl hl.1 rfl (lv_room (Nat.le_of_ble_eq_true rfl)) dL_analysis_5 ⟨Nat.le_of_ble_eq_true rfl, Nat.le_of_ble_eq_true rfl⟩) (fun E9 ce q9 cs1 H locs hP hW hce hcv hcl => ?_) (fun r cs1 H locs hP hW => ?_)
  · obtain ⟨rfl, hq, rfl⟩ := hP
    refine vx_catch1 (C := px_IAE) (name := "java/lang/IllegalArgumentException") htab hown (by decide) (by decide) (hpp _ pp221) (va_Nw.use rfl hX.2.1.1) hce hcv hcl ?_
    have hW : pq_W D _ s.heap L f _ [(ou, .inl (cy 2, 1, .inr (.inl g_ou)))] H locs := hW
    refine lv_astore (lv' := [(4, .ref q9), (0, .ref h0), (1, .int n2), (2, .int n3), (3, .ref ou)]) hx hb dL_analysis_13 hl (by decide) rfl (fun ls hl => ?_)
    refine lv_iconst (v := 1) hx hb dL_analysis_15 (by decide) ?_
    exact px_iret hx hb hr hlocks rfl hW ⟨_, rfl, Or.inl ⟨rfl, hq⟩⟩ (Nat.le_of_ble_eq_true rfl) (Nat.le_of_ble_eq_true rfl) dL_analysis_16
  · obtain ⟨rfl, hq, rfl⟩ := hP
    have hW : pq_W D _ s.heap L f _ [(ou, .inl (cy 2, 1, .inr (.inl g_ou)))] H locs := hW
    refine lv_i2l (v := (-1)) hx hb dL_analysis_8 (by decide) ?_
    refine pq_last hx hb hG hW 0 rfl (vp_in_iff.mpr ⟨by decide, by decide⟩) dL_analysis_9 (fun H locs hW => ?_)
    have hW : pq_W D _ s.heap L f _ [(ou, .inl (cy 2, 1, .inr (.inl _)))] H locs := hW
    refine lv_goto (tgt := 17) hx hb dL_analysis_10 (by decide) ?_
    refine lv_iconst (v := 0) hx hb dL_analysis_17 (by decide) ?_
    exact px_iret hx hb hr hlocks rfl hW ⟨_, rfl, Or.inr ⟨rfl, hq, rfl⟩⟩ (Nat.le_of_ble_eq_true rfl) (Nat.le_of_ble_eq_true rfl) dL_analysis_18
set_option maxHeartbeats 4000000 in
set_option maxRecDepth 100000 in
/-- TongueHouseLaw.guessed on a new object -/
theorem c_L_guessed (l : Launch) (hst : l.stackTraces = false) (D : va_G) (cy : Nat → ClassId) (sa : Nat → Nat) (sz : Nat) (L : List Nat) (f : Nat → va_E) {q1 q23 q27 q39 q48 q61 q114 q115 : Nat} (h0 ou q100 : Nat) (F_h0 : List Value) (g_ou : Nat → Int64) (F_q100 : List Value) (n2 : Int32) (n3 : Int32) (hC : pq_C L f [(h0, .inr (12, F_h0)), (ou, .inl (cy 2, 1, .inr (.inl g_ou))), (q100, .inr (1, F_q100))]) (E_h0 : pq_E 17 F_h0 [(0, .ref q1), (1, .ref q23), (2, .ref q27), (5, .ref q39), (6, .ref q48), (7, .ref q61), (10, .ref q100), (11, .ref q114), (12, .ref q115), (15, .int 0)]) (E_q100 : pq_E 19 F_q100 [(2, .int 0), (4, .int 0), (9, .int 0), (14, .int 0)]) : vx_Met l yL_guessed (Cond.codeWith yL_guessed cL_guessed 5 (some .int) [(0, 10, 13, 19)] :: pp_ws) ({ frames := 7, cells := 1, slots := 6, locals := 122 }) (px_Pc D cy sa [.ref h0, .int n2, .int n3, .ref ou] sz L f) (pq_Qi D sz L f [h0, ou, q100] (fun r cs1 => ∃ g1 : Nat → Int64, cs1 = [(ou, .inl (cy 2, 1, .inr (.inl g1)))] ∧ ((r = 1 ∧ (n3 < 0 ∨ 3 < n3)) ∨ (r = 0 ∧ ¬ (n3 < 0 ∨ 3 < n3) ∧ g1 0 = (-1))))) (pq_T D sz L f [h0, ou, q100] (fun _ _ => False)) 1 6 (pw_A L f sz) := by
  refine vx_ofWH (cc := cL_guessed) (maxL := 5) (ret := (some .int)) (by decide) rfl ?_
  intro p e s m args below meth c s₁ B hml hv
  obtain ⟨rfl, hsz, hG, hX, hP, hD0⟩ := hv
  have hx := B.exec
  have hb := B.bytes
  have hr := B.returns
  have hts := atoms_spec (ws := Cond.codeWith yL_guessed cL_guessed 5 (some .int) [(0, 10, 13, 19)] :: pp_ws) B.pre
  have hpp := fun (w : Cond) (h : w ∈ pp_ws) => hts w (List.mem_cons_of_mem _ h)
  have hown : s.vm.findClass RL = some m.cls := findClass_of_methodNamed B.named
  have hlocks := B.notSynchronized
  have htab : tw_tab c [(0, 10, 13, 19)] := by
    obtain ⟨m', meth', c', h0', h1', h2', -, -, h5', -⟩ := Cond.codeWith_spec (hts (.codeWith yL_guessed cL_guessed 5 (some .int) [(0, 10, 13, 19)]) List.mem_cons_self)
    cases B.named.symm.trans h0'
    cases B.method.symm.trans h1'
    cases (Stand.of_body B).code.symm.trans h2'
    exact h5'
  have hw := pw_start (cy := cy) hsz hP hD0
  have hW := pq_start (as := [h0, ou, q100]) hw hC rfl
  have hl := lv_entry ([.ref h0, .int n2, .int n3, .ref ou]) (n := 5) (Nat.le_of_ble_eq_true rfl)
  rw [lg_entry_eq]
  generalize (lg_sl ([.ref h0, .int n2, .int n3, .ref ou]) ++ List.replicate (5 - (lg_sl ([.ref h0, .int n2, .int n3, .ref ou])).length) Slot.unset).toArray = ls at hl ⊢
  have hl : lv_has ls 5 [(0, .ref h0), (1, .int n2), (2, .int n3), (3, .ref ou)] := hl
  refine lv_aload_n hx hb dL_guessed_0 rfl (lv_at hl 3 rfl) ?_
  refine lv_iconst (v := 0) hx hb dL_guessed_1 (by decide) ?_
  refine lv_aload_n hx hb dL_guessed_2 rfl (lv_at hl 0 rfl) ?_
  refine lv_iload_n hx hb dL_guessed_3 rfl (lv_at hl 1 rfl) ?_
  refine lv_iload_n hx hb dL_guessed_4 rfl (lv_at hl 2 rfl) ?_
  refine pq_xcalli hW [0, 2] [1] (by decide) rfl rfl (fun f9 hw9 hC9 => vx_runV (C := RX12) (As := [.int n2, .int n3]) (rest := [.int 0, .ref ou]) ⟨hx, hb, hml, hown, hts⟩ (c_X12_guessed l hst D cy sa _ L f9 h0 q100 F_h0 F_q100 n2 n3 hC9 E_h0 E_q100) (cwV 2 hts (pp_gV pp231 pp230 pp232 pp233 pp123) rfl rfl rfl pd_X12_guessed ⟨Nat.le_of_ble_eq_true rfl, Nat.le_of_ble_eq_true rfl⟩) (pq_xpreV hG hX hw9 hC9 (j := 0) rfl rfl) rfl rfl hl.1 rfl (lv_room (Nat.le_of_ble_eq_true rfl)) dL_guessed_5 ⟨Nat.le_of_ble_eq_true rfl, Nat.le_of_ble_eq_true rfl⟩) (fun E9 ce q9 cs1 H locs hP hW hce hcv hcl => ?_) (fun r cs1 H locs hP hW => ?_)
  · obtain ⟨rfl, hq, rfl⟩ := hP
    refine vx_catch1 (C := px_IAE) (name := "java/lang/IllegalArgumentException") htab hown (by decide) (by decide) (hpp _ pp221) (va_Nw.use rfl hX.2.1.1) hce hcv hcl ?_
    have hW : pq_W D _ s.heap L f _ [(ou, .inl (cy 2, 1, .inr (.inl g_ou)))] H locs := hW
    refine lv_astore (lv' := [(4, .ref q9), (0, .ref h0), (1, .int n2), (2, .int n3), (3, .ref ou)]) hx hb dL_guessed_13 hl (by decide) rfl (fun ls hl => ?_)
    refine lv_iconst (v := 1) hx hb dL_guessed_15 (by decide) ?_
    exact px_iret hx hb hr hlocks rfl hW ⟨_, rfl, Or.inl ⟨rfl, hq⟩⟩ (Nat.le_of_ble_eq_true rfl) (Nat.le_of_ble_eq_true rfl) dL_guessed_16
  · obtain ⟨rfl, hq, rfl⟩ := hP
    have hW : pq_W D _ s.heap L f _ [(ou, .inl (cy 2, 1, .inr (.inl g_ou)))] H locs := hW
    refine lv_i2l (v := (-1)) hx hb dL_guessed_8 (by decide) ?_
    refine pq_last hx hb hG hW 0 rfl (vp_in_iff.mpr ⟨by decide, by decide⟩) dL_guessed_9 (fun H locs hW => ?_)
    have hW : pq_W D _ s.heap L f _ [(ou, .inl (cy 2, 1, .inr (.inl _)))] H locs := hW
    refine lv_goto (tgt := 17) hx hb dL_guessed_10 (by decide) ?_
    refine lv_iconst (v := 0) hx hb dL_guessed_17 (by decide) ?_
    exact px_iret hx hb hr hlocks rfl hW ⟨_, rfl, Or.inr ⟨rfl, hq, rfl⟩⟩ (Nat.le_of_ble_eq_true rfl) (Nat.le_of_ble_eq_true rfl) dL_guessed_18
set_option maxHeartbeats 4000000 in
set_option maxRecDepth 100000 in
/-- TongueHouseLaw.hit on a new object -/
theorem c_L_hit (l : Launch) (hst : l.stackTraces = false) (D : va_G) (cy : Nat → ClassId) (sa : Nat → Nat) (sz : Nat) (L : List Nat) (f : Nat → va_E) {q1 q23 q27 q39 q48 q61 q114 q115 : Nat} (h0 ou q100 : Nat) (F_h0 : List Value) (g_ou : Nat → Int64) (F_q100 : List Value) (n2 : Int32) (n3 : Int32) (hC : pq_C L f [(h0, .inr (12, F_h0)), (ou, .inl (cy 2, 1, .inr (.inl g_ou))), (q100, .inr (1, F_q100))]) (E_h0 : pq_E 17 F_h0 [(0, .ref q1), (1, .ref q23), (2, .ref q27), (5, .ref q39), (6, .ref q48), (7, .ref q61), (10, .ref q100), (11, .ref q114), (12, .ref q115), (15, .int 0)]) (E_q100 : pq_E 19 F_q100 [(2, .int 0), (4, .int 0), (9, .int 0), (14, .int 0)]) : vx_Met l yL_hit (Cond.codeWith yL_hit cL_hit 5 (some .int) [(0, 10, 13, 19)] :: pp_ws) ({ frames := 7, cells := 1, slots := 6, locals := 122 }) (px_Pc D cy sa [.ref h0, .int n2, .int n3, .ref ou] sz L f) (pq_Qi D sz L f [h0, ou, q100] (fun r cs1 => ∃ g1 : Nat → Int64, cs1 = [(ou, .inl (cy 2, 1, .inr (.inl g1)))] ∧ ((r = 1 ∧ (n3 < 0 ∨ 1 < n3)) ∨ (r = 0 ∧ ¬ (n3 < 0 ∨ 1 < n3) ∧ g1 0 = (-1))))) (pq_T D sz L f [h0, ou, q100] (fun _ _ => False)) 1 6 (pw_A L f sz) := by
  refine vx_ofWH (cc := cL_hit) (maxL := 5) (ret := (some .int)) (by decide) rfl ?_
  intro p e s m args below meth c s₁ B hml hv
  obtain ⟨rfl, hsz, hG, hX, hP, hD0⟩ := hv
  have hx := B.exec
  have hb := B.bytes
  have hr := B.returns
  have hts := atoms_spec (ws := Cond.codeWith yL_hit cL_hit 5 (some .int) [(0, 10, 13, 19)] :: pp_ws) B.pre
  have hpp := fun (w : Cond) (h : w ∈ pp_ws) => hts w (List.mem_cons_of_mem _ h)
  have hown : s.vm.findClass RL = some m.cls := findClass_of_methodNamed B.named
  have hlocks := B.notSynchronized
  have htab : tw_tab c [(0, 10, 13, 19)] := by
    obtain ⟨m', meth', c', h0', h1', h2', -, -, h5', -⟩ := Cond.codeWith_spec (hts (.codeWith yL_hit cL_hit 5 (some .int) [(0, 10, 13, 19)]) List.mem_cons_self)
    cases B.named.symm.trans h0'
    cases B.method.symm.trans h1'
    cases (Stand.of_body B).code.symm.trans h2'
    exact h5'
  have hw := pw_start (cy := cy) hsz hP hD0
  have hW := pq_start (as := [h0, ou, q100]) hw hC rfl
  have hl := lv_entry ([.ref h0, .int n2, .int n3, .ref ou]) (n := 5) (Nat.le_of_ble_eq_true rfl)
  rw [lg_entry_eq]
  generalize (lg_sl ([.ref h0, .int n2, .int n3, .ref ou]) ++ List.replicate (5 - (lg_sl ([.ref h0, .int n2, .int n3, .ref ou])).length) Slot.unset).toArray = ls at hl ⊢
  have hl : lv_has ls 5 [(0, .ref h0), (1, .int n2), (2, .int n3), (3, .ref ou)] := hl
  refine lv_aload_n hx hb dL_hit_0 rfl (lv_at hl 3 rfl) ?_
  refine lv_iconst (v := 0) hx hb dL_hit_1 (by decide) ?_
  refine lv_aload_n hx hb dL_hit_2 rfl (lv_at hl 0 rfl) ?_
  refine lv_iload_n hx hb dL_hit_3 rfl (lv_at hl 1 rfl) ?_
  refine lv_iload_n hx hb dL_hit_4 rfl (lv_at hl 2 rfl) ?_
  refine pq_xcalli hW [0, 2] [1] (by decide) rfl rfl (fun f9 hw9 hC9 => vx_runV (C := RX12) (As := [.int n2, .int n3]) (rest := [.int 0, .ref ou]) ⟨hx, hb, hml, hown, hts⟩ (c_X12_hit l hst D cy sa _ L f9 h0 q100 F_h0 F_q100 n2 n3 hC9 E_h0 E_q100) (cwV 2 hts (pp_gV pp235 pp234 pp236 pp237 pp123) rfl rfl rfl pd_X12_hit ⟨Nat.le_of_ble_eq_true rfl, Nat.le_of_ble_eq_true rfl⟩) (pq_xpreV hG hX hw9 hC9 (j := 0) rfl rfl) rfl rfl hl.1 rfl (lv_room (Nat.le_of_ble_eq_true rfl)) dL_hit_5 ⟨Nat.le_of_ble_eq_true rfl, Nat.le_of_ble_eq_true rfl⟩) (fun E9 ce q9 cs1 H locs hP hW hce hcv hcl => ?_) (fun r cs1 H locs hP hW => ?_)
  · obtain ⟨rfl, hq, rfl⟩ := hP
    refine vx_catch1 (C := px_IAE) (name := "java/lang/IllegalArgumentException") htab hown (by decide) (by decide) (hpp _ pp221) (va_Nw.use rfl hX.2.1.1) hce hcv hcl ?_
    have hW : pq_W D _ s.heap L f _ [(ou, .inl (cy 2, 1, .inr (.inl g_ou)))] H locs := hW
    refine lv_astore (lv' := [(4, .ref q9), (0, .ref h0), (1, .int n2), (2, .int n3), (3, .ref ou)]) hx hb dL_hit_13 hl (by decide) rfl (fun ls hl => ?_)
    refine lv_iconst (v := 1) hx hb dL_hit_15 (by decide) ?_
    exact px_iret hx hb hr hlocks rfl hW ⟨_, rfl, Or.inl ⟨rfl, hq⟩⟩ (Nat.le_of_ble_eq_true rfl) (Nat.le_of_ble_eq_true rfl) dL_hit_16
  · obtain ⟨rfl, hq, rfl⟩ := hP
    have hW : pq_W D _ s.heap L f _ [(ou, .inl (cy 2, 1, .inr (.inl g_ou)))] H locs := hW
    refine lv_i2l (v := (-1)) hx hb dL_hit_8 (by decide) ?_
    refine pq_last hx hb hG hW 0 rfl (vp_in_iff.mpr ⟨by decide, by decide⟩) dL_hit_9 (fun H locs hW => ?_)
    have hW : pq_W D _ s.heap L f _ [(ou, .inl (cy 2, 1, .inr (.inl _)))] H locs := hW
    refine lv_goto (tgt := 17) hx hb dL_hit_10 (by decide) ?_
    refine lv_iconst (v := 0) hx hb dL_hit_17 (by decide) ?_
    exact px_iret hx hb hr hlocks rfl hW ⟨_, rfl, Or.inr ⟨rfl, hq, rfl⟩⟩ (Nat.le_of_ble_eq_true rfl) (Nat.le_of_ble_eq_true rfl) dL_hit_18
set_option maxHeartbeats 4000000 in
set_option maxRecDepth 100000 in
/-- TongueHouseLaw.reading on a new object -/
theorem c_L_reading (l : Launch) (hst : l.stackTraces = false) (D : va_G) (cy : Nat → ClassId) (sa : Nat → Nat) (sz : Nat) (L : List Nat) (f : Nat → va_E) {q1 q23 q27 q39 q48 q100 q115 : Nat} (h0 ou q114 q61 : Nat) (F_h0 : List Value) (g_ou : Nat → Int64) (F_q61 : List Value) (n2 : Int32) (n3 : Int32) (hC : pq_C L f [(h0, .inr (12, F_h0)), (ou, .inl (cy 2, 1, .inr (.inl g_ou))), (q114, .inl (cy 7, 9, .inr (.inr (.inr (.inr (fun j => if j < 9 then some (q114 + 1 + j) else none)))))), (q61, .inr (5, F_q61))]) (E_h0 : pq_E 17 F_h0 [(0, .ref q1), (1, .ref q23), (2, .ref q27), (5, .ref q39), (6, .ref q48), (7, .ref q61), (10, .ref q100), (11, .ref q114), (12, .ref q115), (15, .int 0)]) (E_q61 : pq_E 19 F_q61 [(3, .int 0), (15, .int 0)]) : vx_Met l yL_reading (Cond.codeWith yL_reading cL_reading 5 (some .int) [(0, 10, 13, 19)] :: pp_ws) ({ frames := 8, cells := 1, slots := 6, locals := 143 }) (px_Pc D cy sa [.ref h0, .int n2, .int n3, .ref ou] sz L f) (pq_Qi D sz L f [h0, ou, q114, q61] (fun r cs1 => ∃ g1 : Nat → Int64, cs1 = [(ou, .inl (cy 2, 1, .inr (.inl g1)))] ∧ ((r = 1 ∧ (n3 < 0 ∨ 7 < n3)) ∨ (r = 0 ∧ ¬ (n3 < 0 ∨ 7 < n3) ∧ g1 0 = (-1))))) (pq_T D sz L f [h0, ou, q114, q61] (fun _ _ => False)) 1 6 (pw_A L f sz) := by
  refine vx_ofWH (cc := cL_reading) (maxL := 5) (ret := (some .int)) (by decide) rfl ?_
  intro p e s m args below meth c s₁ B hml hv
  obtain ⟨rfl, hsz, hG, hX, hP, hD0⟩ := hv
  have hx := B.exec
  have hb := B.bytes
  have hr := B.returns
  have hts := atoms_spec (ws := Cond.codeWith yL_reading cL_reading 5 (some .int) [(0, 10, 13, 19)] :: pp_ws) B.pre
  have hpp := fun (w : Cond) (h : w ∈ pp_ws) => hts w (List.mem_cons_of_mem _ h)
  have hown : s.vm.findClass RL = some m.cls := findClass_of_methodNamed B.named
  have hlocks := B.notSynchronized
  have htab : tw_tab c [(0, 10, 13, 19)] := by
    obtain ⟨m', meth', c', h0', h1', h2', -, -, h5', -⟩ := Cond.codeWith_spec (hts (.codeWith yL_reading cL_reading 5 (some .int) [(0, 10, 13, 19)]) List.mem_cons_self)
    cases B.named.symm.trans h0'
    cases B.method.symm.trans h1'
    cases (Stand.of_body B).code.symm.trans h2'
    exact h5'
  have hw := pw_start (cy := cy) hsz hP hD0
  have hW := pq_start (as := [h0, ou, q114, q61]) hw hC rfl
  have hl := lv_entry ([.ref h0, .int n2, .int n3, .ref ou]) (n := 5) (Nat.le_of_ble_eq_true rfl)
  rw [lg_entry_eq]
  generalize (lg_sl ([.ref h0, .int n2, .int n3, .ref ou]) ++ List.replicate (5 - (lg_sl ([.ref h0, .int n2, .int n3, .ref ou])).length) Slot.unset).toArray = ls at hl ⊢
  have hl : lv_has ls 5 [(0, .ref h0), (1, .int n2), (2, .int n3), (3, .ref ou)] := hl
  refine lv_aload_n hx hb dL_reading_0 rfl (lv_at hl 3 rfl) ?_
  refine lv_iconst (v := 0) hx hb dL_reading_1 (by decide) ?_
  refine lv_aload_n hx hb dL_reading_2 rfl (lv_at hl 0 rfl) ?_
  refine lv_iload_n hx hb dL_reading_3 rfl (lv_at hl 1 rfl) ?_
  refine lv_iload_n hx hb dL_reading_4 rfl (lv_at hl 2 rfl) ?_
  refine pq_xcalli hW [0, 2, 3] [1] (by decide) rfl rfl (fun f9 hw9 hC9 => vx_runV (C := RX12) (As := [.int n2, .int n3]) (rest := [.int 0, .ref ou]) ⟨hx, hb, hml, hown, hts⟩ (c_X12_reading l hst D cy sa _ L f9 h0 q114 q61 F_h0 F_q61 n2 n3 hC9 E_h0 E_q61) (cwV 2 hts (pp_gV pp239 pp238 pp240 pp241 pp123) rfl rfl rfl pd_X12_reading ⟨Nat.le_of_ble_eq_true rfl, Nat.le_of_ble_eq_true rfl⟩) (pq_xpreV hG hX hw9 hC9 (j := 0) rfl rfl) rfl rfl hl.1 rfl (lv_room (Nat.le_of_ble_eq_true rfl)) dL_reading_5 ⟨Nat.le_of_ble_eq_true rfl, Nat.le_of_ble_eq_true rfl⟩) (fun E9 ce q9 cs1 H locs hP hW hce hcv hcl => ?_) (fun r cs1 H locs hP hW => ?_)
  · obtain ⟨rfl, hq, rfl⟩ := hP
    refine vx_catch1 (C := px_IAE) (name := "java/lang/IllegalArgumentException") htab hown (by decide) (by decide) (hpp _ pp221) (va_Nw.use rfl hX.2.1.1) hce hcv hcl ?_
    have hW : pq_W D _ s.heap L f _ [(ou, .inl (cy 2, 1, .inr (.inl g_ou)))] H locs := hW
    refine lv_astore (lv' := [(4, .ref q9), (0, .ref h0), (1, .int n2), (2, .int n3), (3, .ref ou)]) hx hb dL_reading_13 hl (by decide) rfl (fun ls hl => ?_)
    refine lv_iconst (v := 1) hx hb dL_reading_15 (by decide) ?_
    exact px_iret hx hb hr hlocks rfl hW ⟨_, rfl, Or.inl ⟨rfl, hq⟩⟩ (Nat.le_of_ble_eq_true rfl) (Nat.le_of_ble_eq_true rfl) dL_reading_16
  · obtain ⟨rfl, hq, rfl⟩ := hP
    have hW : pq_W D _ s.heap L f _ [(ou, .inl (cy 2, 1, .inr (.inl g_ou)))] H locs := hW
    refine lv_i2l (v := (-1)) hx hb dL_reading_8 (by decide) ?_
    refine pq_last hx hb hG hW 0 rfl (vp_in_iff.mpr ⟨by decide, by decide⟩) dL_reading_9 (fun H locs hW => ?_)
    have hW : pq_W D _ s.heap L f _ [(ou, .inl (cy 2, 1, .inr (.inl _)))] H locs := hW
    refine lv_goto (tgt := 17) hx hb dL_reading_10 (by decide) ?_
    refine lv_iconst (v := 0) hx hb dL_reading_17 (by decide) ?_
    exact px_iret hx hb hr hlocks rfl hW ⟨_, rfl, Or.inr ⟨rfl, hq, rfl⟩⟩ (Nat.le_of_ble_eq_true rfl) (Nat.le_of_ble_eq_true rfl) dL_reading_18
set_option maxHeartbeats 4000000 in
set_option maxRecDepth 100000 in
/-- TongueHouseLaw.tree on a new object -/
theorem c_L_tree (l : Launch) (hst : l.stackTraces = false) (D : va_G) (cy : Nat → ClassId) (sa : Nat → Nat) (sz : Nat) (L : List Nat) (f : Nat → va_E) {q1 q24 q27 q48 q61 q100 q115 : Nat} (h0 ou q114 q39 q23 : Nat) (F_h0 : List Value) (g_ou : Nat → Int64) (F_q39 : List Value) (F_q23 : List Value) (n2 : Int32) (hC : pq_C L f [(h0, .inr (12, F_h0)), (ou, .inl (cy 2, 1, .inr (.inl g_ou))), (q114, .inl (cy 7, 9, .inr (.inr (.inr (.inr (fun j => if j < 9 then some (q114 + 1 + j) else none)))))), (q39, .inr (6, F_q39)), (q23, .inr (9, F_q23))]) (E_h0 : pq_E 17 F_h0 [(0, .ref q1), (1, .ref q23), (2, .ref q27), (5, .ref q39), (6, .ref q48), (7, .ref q61), (10, .ref q100), (11, .ref q114), (12, .ref q115), (15, .int 0)]) (E_q39 : pq_E 19 F_q39 [(0, .ref q1), (1, .ref q23), (3, .int 0)]) (E_q23 : pq_E 10 F_q23 [(0, .ref q24), (1, .int 0), (5, .int 0), (6, .int 0), (7, .int 0)]) : vx_Met l yL_tree (Cond.codeWith yL_tree cL_tree 4 (some .int) [(0, 9, 12, 19)] :: pp_ws) ({ frames := 8, cells := 1, slots := 6, locals := 142 }) (px_Pc D cy sa [.ref h0, .int n2, .ref ou] sz L f) (pq_Qi D sz L f [h0, ou, q114, q39, q23] (fun r cs1 => ∃ g1 : Nat → Int64, cs1 = [(ou, .inl (cy 2, 1, .inr (.inl g1)))] ∧ ((r = 1 ∧ (n2 < 0 ∨ 7 < n2)) ∨ (r = 0 ∧ ¬ (n2 < 0 ∨ 7 < n2) ∧ g1 0 = (-1))))) (pq_T D sz L f [h0, ou, q114, q39, q23] (fun _ _ => False)) 1 6 (pw_A L f sz) := by
  refine vx_ofWH (cc := cL_tree) (maxL := 4) (ret := (some .int)) (by decide) rfl ?_
  intro p e s m args below meth c s₁ B hml hv
  obtain ⟨rfl, hsz, hG, hX, hP, hD0⟩ := hv
  have hx := B.exec
  have hb := B.bytes
  have hr := B.returns
  have hts := atoms_spec (ws := Cond.codeWith yL_tree cL_tree 4 (some .int) [(0, 9, 12, 19)] :: pp_ws) B.pre
  have hpp := fun (w : Cond) (h : w ∈ pp_ws) => hts w (List.mem_cons_of_mem _ h)
  have hown : s.vm.findClass RL = some m.cls := findClass_of_methodNamed B.named
  have hlocks := B.notSynchronized
  have htab : tw_tab c [(0, 9, 12, 19)] := by
    obtain ⟨m', meth', c', h0', h1', h2', -, -, h5', -⟩ := Cond.codeWith_spec (hts (.codeWith yL_tree cL_tree 4 (some .int) [(0, 9, 12, 19)]) List.mem_cons_self)
    cases B.named.symm.trans h0'
    cases B.method.symm.trans h1'
    cases (Stand.of_body B).code.symm.trans h2'
    exact h5'
  have hw := pw_start (cy := cy) hsz hP hD0
  have hW := pq_start (as := [h0, ou, q114, q39, q23]) hw hC rfl
  have hl := lv_entry ([.ref h0, .int n2, .ref ou]) (n := 4) (Nat.le_of_ble_eq_true rfl)
  rw [lg_entry_eq]
  generalize (lg_sl ([.ref h0, .int n2, .ref ou]) ++ List.replicate (4 - (lg_sl ([.ref h0, .int n2, .ref ou])).length) Slot.unset).toArray = ls at hl ⊢
  have hl : lv_has ls 4 [(0, .ref h0), (1, .int n2), (2, .ref ou)] := hl
  refine lv_aload_n hx hb dL_tree_0 rfl (lv_at hl 2 rfl) ?_
  refine lv_iconst (v := 0) hx hb dL_tree_1 (by decide) ?_
  refine lv_aload_n hx hb dL_tree_2 rfl (lv_at hl 0 rfl) ?_
  refine lv_iload_n hx hb dL_tree_3 rfl (lv_at hl 1 rfl) ?_
  refine pq_xcalli hW [0, 2, 3, 4] [1] (by decide) rfl rfl (fun f9 hw9 hC9 => vx_runV (C := RX12) (As := [.int n2]) (rest := [.int 0, .ref ou]) ⟨hx, hb, hml, hown, hts⟩ (c_X12_tree l hst D cy sa _ L f9 h0 q114 q39 q23 F_h0 F_q39 F_q23 n2 hC9 E_h0 E_q39 E_q23) (cwV 1 hts (pp_gV pp243 pp242 pp244 pp245 pp123) rfl rfl rfl pd_X12_tree ⟨Nat.le_of_ble_eq_true rfl, Nat.le_of_ble_eq_true rfl⟩) (pq_xpreV hG hX hw9 hC9 (j := 0) rfl rfl) rfl rfl hl.1 rfl (lv_room (Nat.le_of_ble_eq_true rfl)) dL_tree_4 ⟨Nat.le_of_ble_eq_true rfl, Nat.le_of_ble_eq_true rfl⟩) (fun E9 ce q9 cs1 H locs hP hW hce hcv hcl => ?_) (fun r cs1 H locs hP hW => ?_)
  · obtain ⟨rfl, hq, rfl⟩ := hP
    refine vx_catch1 (C := px_IAE) (name := "java/lang/IllegalArgumentException") htab hown (by decide) (by decide) (hpp _ pp221) (va_Nw.use rfl hX.2.1.1) hce hcv hcl ?_
    have hW : pq_W D _ s.heap L f _ [(ou, .inl (cy 2, 1, .inr (.inl g_ou)))] H locs := hW
    refine lv_astore_n (lv' := [(3, .ref q9), (0, .ref h0), (1, .int n2), (2, .ref ou)]) hx hb dL_tree_12 rfl hl (by decide) rfl (fun ls hl => ?_)
    refine lv_iconst (v := 1) hx hb dL_tree_13 (by decide) ?_
    exact px_iret hx hb hr hlocks rfl hW ⟨_, rfl, Or.inl ⟨rfl, hq⟩⟩ (Nat.le_of_ble_eq_true rfl) (Nat.le_of_ble_eq_true rfl) dL_tree_14
  · obtain ⟨rfl, hq, rfl⟩ := hP
    have hW : pq_W D _ s.heap L f _ [(ou, .inl (cy 2, 1, .inr (.inl g_ou)))] H locs := hW
    refine lv_i2l (v := (-1)) hx hb dL_tree_7 (by decide) ?_
    refine pq_last hx hb hG hW 0 rfl (vp_in_iff.mpr ⟨by decide, by decide⟩) dL_tree_8 (fun H locs hW => ?_)
    have hW : pq_W D _ s.heap L f _ [(ou, .inl (cy 2, 1, .inr (.inl _)))] H locs := hW
    refine lv_goto (tgt := 15) hx hb dL_tree_9 (by decide) ?_
    refine lv_iconst (v := 0) hx hb dL_tree_15 (by decide) ?_
    exact px_iret hx hb hr hlocks rfl hW ⟨_, rfl, Or.inr ⟨rfl, hq, rfl⟩⟩ (Nat.le_of_ble_eq_true rfl) (Nat.le_of_ble_eq_true rfl) dL_tree_16
