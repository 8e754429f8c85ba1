set_option maxHeartbeats 4000000 in
set_option maxRecDepth 100000 in
/-- TongueHouseLaw.guess on a new object -/
theorem c_L_guess (l : Launch) (hst : l.stackTraces = false) (D : va_G) (cy : Nat → ClassId) (sa : Nat → Nat) (sz : Nat) (L : List Nat) (f : Nat → va_E) {q2 q4 q6 q15 q21 q23 q27 q39 q48 q61 q100 q114 q115 : Nat} (h0 ou q1 q8 : Nat) (F_h0 : List Value) (g_ou : Nat → Int64) (F_q1 : List Value) (F_q8 : List Value) (n2 : Int32) (hC : pq_C L f [(h0, .inr (12, F_h0)), (ou, .inl (cy 2, 1, .inr (.inl g_ou))), (q1, .inr (8, F_q1)), (q8, .inr (4, F_q8))]) (E_h0 : pq_E 17 F_h0 [(0, .ref q1), (1, .ref q23), (2, .ref q27), (5, .ref q39), (6, .ref q48), (7, .ref q61), (10, .ref q100), (11, .ref q114), (12, .ref q115), (15, .int 0)]) (E_q1 : pq_E 21 F_q1 [(0, .ref q2), (1, .ref q4), (2, .ref q6), (3, .ref q8), (5, .int (-1)), (10, .ref q15), (13, .int 0), (17, .int 0), (18, .int 0), (19, .ref q21)]) (E_q8 : pq_E 2 F_q8 [(1, .int 0)]) : vx_Met l yL_guess (Cond.codeWith yL_guess cL_guess 4 (some .int) [(0, 9, 12, 19)] :: pp_ws) ({ frames := 8, cells := 1, slots := 6, locals := 144 }) (px_Pc D cy sa [.ref h0, .int n2, .ref ou] sz L f) (pq_Qi D sz L f [h0, ou, q1, q8] (fun r cs1 => ∃ g1 : Nat → Int64, cs1 = [(ou, .inl (cy 2, 1, .inr (.inl g1)))] ∧ ((r = 1 ∧ (True)) ∨ (r = 0 ∧ ¬ (True) ∧ g1 0 = 0)))) (pq_T D sz L f [h0, ou, q1, q8] (fun _ _ => False)) 1 6 (pw_A L f sz) := by
  refine vx_ofWH (cc := cL_guess) (maxL := 4) (ret := (some .int)) (by decide) rfl ?_
  intro p e s m args below meth c s₁ B hml hv
  obtain ⟨rfl, hsz, hG, hX, hP, hD0⟩ := hv
  have hx := B.exec
  have hb := B.bytes
  have hr := B.returns
  have hts := atoms_spec (ws := Cond.codeWith yL_guess cL_guess 4 (some .int) [(0, 9, 12, 19)] :: pp_ws) B.pre
  have hpp := fun (w : Cond) (h : w ∈ pp_ws) => hts w (List.mem_cons_of_mem _ h)
  have hown : s.vm.findClass RL = some m.cls := findClass_of_methodNamed B.named
  have hlocks := B.notSynchronized
  have htab : tw_tab c [(0, 9, 12, 19)] := by
    obtain ⟨m', meth', c', h0', h1', h2', -, -, h5', -⟩ := Cond.codeWith_spec (hts (.codeWith yL_guess cL_guess 4 (some .int) [(0, 9, 12, 19)]) List.mem_cons_self)
    cases B.named.symm.trans h0'
    cases B.method.symm.trans h1'
    cases (Stand.of_body B).code.symm.trans h2'
    exact h5'
  have hw := pw_start (cy := cy) hsz hP hD0
  have hW := pq_start (as := [h0, ou, q1, q8]) hw hC rfl
  have hl := lv_entry ([.ref h0, .int n2, .ref ou]) (n := 4) (Nat.le_of_ble_eq_true rfl)
  rw [lg_entry_eq]
  generalize (lg_sl ([.ref h0, .int n2, .ref ou]) ++ List.replicate (4 - (lg_sl ([.ref h0, .int n2, .ref ou])).length) Slot.unset).toArray = ls at hl ⊢
  have hl : lv_has ls 4 [(0, .ref h0), (1, .int n2), (2, .ref ou)] := hl
  refine lv_aload_n hx hb dL_guess_0 rfl (lv_at hl 2 rfl) ?_
  refine lv_iconst (v := 0) hx hb dL_guess_1 (by decide) ?_
  refine lv_aload_n hx hb dL_guess_2 rfl (lv_at hl 0 rfl) ?_
  refine lv_iload_n hx hb dL_guess_3 rfl (lv_at hl 1 rfl) ?_
  refine pq_xcallN hW [0, 2, 3] [1] (by decide) rfl rfl (fun f9 hw9 hC9 => vx_runV (C := RX12) (As := [.int n2]) (rest := [.int 0, .ref ou]) ⟨hx, hb, hml, hown, hts⟩ (c_X12_guess l hst D cy sa _ L f9 h0 q1 q8 F_h0 F_q1 F_q8 n2 hC9 E_h0 E_q1 E_q8) (cwV 1 hts (pp_gV pp279 pp278 pp280 pp281 pp123) rfl rfl rfl pd_X12_guess ⟨Nat.le_of_ble_eq_true rfl, Nat.le_of_ble_eq_true rfl⟩) (pq_xpreV hG hX hw9 hC9 (j := 0) rfl rfl) rfl rfl hl.1 rfl (lv_room (Nat.le_of_ble_eq_true rfl)) dL_guess_4 ⟨Nat.le_of_ble_eq_true rfl, Nat.le_of_ble_eq_true rfl⟩) (fun E9 ce q9 cs1 H locs hP hW hce hcv hcl => ?_)
  obtain ⟨rfl, hq, rfl⟩ := hP
  refine vx_catch1 (C := px_IAE) (name := "java/lang/IllegalArgumentException") htab hown (by decide) (by decide) (hpp _ pp221) (va_Nw.use rfl hX.2.1.1) hce hcv hcl ?_
  have hW : pq_W D _ s.heap L f _ [(ou, .inl (cy 2, 1, .inr (.inl g_ou)))] H locs := hW
  refine lv_astore_n (lv' := [(3, .ref q9), (0, .ref h0), (1, .int n2), (2, .ref ou)]) hx hb dL_guess_12 rfl hl (by decide) rfl (fun ls hl => ?_)
  refine lv_iconst (v := 1) hx hb dL_guess_13 (by decide) ?_
  exact px_iret hx hb hr hlocks rfl hW ⟨_, rfl, Or.inl ⟨rfl, hq⟩⟩ (Nat.le_of_ble_eq_true rfl) (Nat.le_of_ble_eq_true rfl) dL_guess_14
set_option maxHeartbeats 4000000 in
set_option maxRecDepth 100000 in
/-- TongueHouseLaw.parse on a new object -/
theorem c_L_parse (l : Launch) (hst : l.stackTraces = false) (D : va_G) (cy : Nat → ClassId) (sa : Nat → Nat) (sz : Nat) (L : List Nat) (f : Nat → va_E) {q2 q4 q6 q15 q21 q23 q27 q39 q48 q61 q100 q114 q115 : Nat} (h0 ou q1 q8 : Nat) (F_h0 : List Value) (g_ou : Nat → Int64) (F_q1 : List Value) (F_q8 : List Value) (n2 : Int32) (n3 : Int32) (hC : pq_C L f [(h0, .inr (12, F_h0)), (ou, .inl (cy 2, 1, .inr (.inl g_ou))), (q1, .inr (8, F_q1)), (q8, .inr (4, F_q8))]) (E_h0 : pq_E 17 F_h0 [(0, .ref q1), (1, .ref q23), (2, .ref q27), (5, .ref q39), (6, .ref q48), (7, .ref q61), (10, .ref q100), (11, .ref q114), (12, .ref q115), (15, .int 0)]) (E_q1 : pq_E 21 F_q1 [(0, .ref q2), (1, .ref q4), (2, .ref q6), (3, .ref q8), (5, .int (-1)), (10, .ref q15), (13, .int 0), (17, .int 0), (18, .int 0), (19, .ref q21)]) (E_q8 : pq_E 2 F_q8 [(1, .int 0)]) : vx_Met l yL_parse (Cond.codeWith yL_parse cL_parse 5 (some .int) [(0, 10, 13, 19)] :: pp_ws) ({ frames := 8, cells := 1, slots := 6, locals := 145 }) (px_Pc D cy sa [.ref h0, .int n2, .int n3, .ref ou] sz L f) (pq_Qi D sz L f [h0, ou, q1, q8] (fun r cs1 => ∃ g1 : Nat → Int64, cs1 = [(ou, .inl (cy 2, 1, .inr (.inl g1)))] ∧ ((r = 1 ∧ (True)) ∨ (r = 0 ∧ ¬ (True) ∧ g1 0 = 0)))) (pq_T D sz L f [h0, ou, q1, q8] (fun _ _ => False)) 1 6 (pw_A L f sz) := by
  refine vx_ofWH (cc := cL_parse) (maxL := 5) (ret := (some .int)) (by decide) rfl ?_
  intro p e s m args below meth c s₁ B hml hv
  obtain ⟨rfl, hsz, hG, hX, hP, hD0⟩ := hv
  have hx := B.exec
  have hb := B.bytes
  have hr := B.returns
  have hts := atoms_spec (ws := Cond.codeWith yL_parse cL_parse 5 (some .int) [(0, 10, 13, 19)] :: pp_ws) B.pre
  have hpp := fun (w : Cond) (h : w ∈ pp_ws) => hts w (List.mem_cons_of_mem _ h)
  have hown : s.vm.findClass RL = some m.cls := findClass_of_methodNamed B.named
  have hlocks := B.notSynchronized
  have htab : tw_tab c [(0, 10, 13, 19)] := by
    obtain ⟨m', meth', c', h0', h1', h2', -, -, h5', -⟩ := Cond.codeWith_spec (hts (.codeWith yL_parse cL_parse 5 (some .int) [(0, 10, 13, 19)]) List.mem_cons_self)
    cases B.named.symm.trans h0'
    cases B.method.symm.trans h1'
    cases (Stand.of_body B).code.symm.trans h2'
    exact h5'
  have hw := pw_start (cy := cy) hsz hP hD0
  have hW := pq_start (as := [h0, ou, q1, q8]) hw hC rfl
  have hl := lv_entry ([.ref h0, .int n2, .int n3, .ref ou]) (n := 5) (Nat.le_of_ble_eq_true rfl)
  rw [lg_entry_eq]
  generalize (lg_sl ([.ref h0, .int n2, .int n3, .ref ou]) ++ List.replicate (5 - (lg_sl ([.ref h0, .int n2, .int n3, .ref ou])).length) Slot.unset).toArray = ls at hl ⊢
  have hl : lv_has ls 5 [(0, .ref h0), (1, .int n2), (2, .int n3), (3, .ref ou)] := hl
  refine lv_aload_n hx hb dL_parse_0 rfl (lv_at hl 3 rfl) ?_
  refine lv_iconst (v := 0) hx hb dL_parse_1 (by decide) ?_
  refine lv_aload_n hx hb dL_parse_2 rfl (lv_at hl 0 rfl) ?_
  refine lv_iload_n hx hb dL_parse_3 rfl (lv_at hl 1 rfl) ?_
  refine lv_iload_n hx hb dL_parse_4 rfl (lv_at hl 2 rfl) ?_
  refine pq_xcallN hW [0, 2, 3] [1] (by decide) rfl rfl (fun f9 hw9 hC9 => vx_runV (C := RX12) (As := [.int n2, .int n3]) (rest := [.int 0, .ref ou]) ⟨hx, hb, hml, hown, hts⟩ (c_X12_parse l hst D cy sa _ L f9 h0 q1 q8 F_h0 F_q1 F_q8 n2 n3 hC9 E_h0 E_q1 E_q8) (cwV 2 hts (pp_gV pp283 pp282 pp284 pp285 pp123) rfl rfl rfl pd_X12_parse ⟨Nat.le_of_ble_eq_true rfl, Nat.le_of_ble_eq_true rfl⟩) (pq_xpreV hG hX hw9 hC9 (j := 0) rfl rfl) rfl rfl hl.1 rfl (lv_room (Nat.le_of_ble_eq_true rfl)) dL_parse_5 ⟨Nat.le_of_ble_eq_true rfl, Nat.le_of_ble_eq_true rfl⟩) (fun E9 ce q9 cs1 H locs hP hW hce hcv hcl => ?_)
  obtain ⟨rfl, hq, rfl⟩ := hP
  refine vx_catch1 (C := px_IAE) (name := "java/lang/IllegalArgumentException") htab hown (by decide) (by decide) (hpp _ pp221) (va_Nw.use rfl hX.2.1.1) hce hcv hcl ?_
  have hW : pq_W D _ s.heap L f _ [(ou, .inl (cy 2, 1, .inr (.inl g_ou)))] H locs := hW
  refine lv_astore (lv' := [(4, .ref q9), (0, .ref h0), (1, .int n2), (2, .int n3), (3, .ref ou)]) hx hb dL_parse_13 hl (by decide) rfl (fun ls hl => ?_)
  refine lv_iconst (v := 1) hx hb dL_parse_15 (by decide) ?_
  exact px_iret hx hb hr hlocks rfl hW ⟨_, rfl, Or.inl ⟨rfl, hq⟩⟩ (Nat.le_of_ble_eq_true rfl) (Nat.le_of_ble_eq_true rfl) dL_parse_16
set_option maxHeartbeats 4000000 in
set_option maxRecDepth 100000 in
/-- TongueHouseLaw.bar on a new object -/
theorem c_L_bar (l : Launch) (hst : l.stackTraces = false) (D : va_G) (cy : Nat → ClassId) (sa : Nat → Nat) (sz : Nat) (L : List Nat) (f : Nat → va_E) {q2 q6 q8 q15 q21 q23 q27 q39 q48 q61 q100 q114 q115 : Nat} (h0 ou q1 q4 : Nat) (F_h0 : List Value) (g_ou : Nat → Int64) (F_q1 : List Value) (F_q4 : List Value) (n2 : Int32) (n3 : Int32) (hC : pq_C L f [(h0, .inr (12, F_h0)), (ou, .inl (cy 2, 1, .inr (.inl g_ou))), (q1, .inr (8, F_q1)), (q4, .inr (4, F_q4))]) (E_h0 : pq_E 17 F_h0 [(0, .ref q1), (1, .ref q23), (2, .ref q27), (5, .ref q39), (6, .ref q48), (7, .ref q61), (10, .ref q100), (11, .ref q114), (12, .ref q115), (15, .int 0)]) (E_q1 : pq_E 21 F_q1 [(0, .ref q2), (1, .ref q4), (2, .ref q6), (3, .ref q8), (5, .int (-1)), (10, .ref q15), (13, .int 0), (17, .int 0), (18, .int 0), (19, .ref q21)]) (E_q4 : pq_E 2 F_q4 [(1, .int 0)]) : vx_Met l yL_bar (Cond.codeWith yL_bar cL_bar 5 (some .int) [(0, 9, 12, 19)] :: pp_ws) ({ frames := 7, cells := 1, slots := 6, locals := 122 }) (px_Pc D cy sa [.ref h0, .int n2, .int n3, .ref ou] sz L f) (pq_Qi D sz L f [h0, ou, q1, q4] (fun r cs1 => ∃ g1 : Nat → Int64, cs1 = [(ou, .inl (cy 2, 1, .inr (.inl g1)))] ∧ ((r = 1 ∧ (True)) ∨ (r = 0 ∧ ¬ (True) ∧ g1 0 = 0)))) (pq_T D sz L f [h0, ou, q1, q4] (fun _ _ => False)) 1 6 (pw_A L f sz) := by
  refine vx_ofWH (cc := cL_bar) (maxL := 5) (ret := (some .int)) (by decide) rfl ?_
  intro p e s m args below meth c s₁ B hml hv
  obtain ⟨rfl, hsz, hG, hX, hP, hD0⟩ := hv
  have hx := B.exec
  have hb := B.bytes
  have hr := B.returns
  have hts := atoms_spec (ws := Cond.codeWith yL_bar cL_bar 5 (some .int) [(0, 9, 12, 19)] :: pp_ws) B.pre
  have hpp := fun (w : Cond) (h : w ∈ pp_ws) => hts w (List.mem_cons_of_mem _ h)
  have hown : s.vm.findClass RL = some m.cls := findClass_of_methodNamed B.named
  have hlocks := B.notSynchronized
  have htab : tw_tab c [(0, 9, 12, 19)] := by
    obtain ⟨m', meth', c', h0', h1', h2', -, -, h5', -⟩ := Cond.codeWith_spec (hts (.codeWith yL_bar cL_bar 5 (some .int) [(0, 9, 12, 19)]) List.mem_cons_self)
    cases B.named.symm.trans h0'
    cases B.method.symm.trans h1'
    cases (Stand.of_body B).code.symm.trans h2'
    exact h5'
  have hw := pw_start (cy := cy) hsz hP hD0
  have hW := pq_start (as := [h0, ou, q1, q4]) hw hC rfl
  have hl := lv_entry ([.ref h0, .int n2, .int n3, .ref ou]) (n := 5) (Nat.le_of_ble_eq_true rfl)
  rw [lg_entry_eq]
  generalize (lg_sl ([.ref h0, .int n2, .int n3, .ref ou]) ++ List.replicate (5 - (lg_sl ([.ref h0, .int n2, .int n3, .ref ou])).length) Slot.unset).toArray = ls at hl ⊢
  have hl : lv_has ls 5 [(0, .ref h0), (1, .int n2), (2, .int n3), (3, .ref ou)] := hl
  refine lv_aload_n hx hb dL_bar_0 rfl (lv_at hl 3 rfl) ?_
  refine lv_iconst (v := 0) hx hb dL_bar_1 (by decide) ?_
  refine lv_aload_n hx hb dL_bar_2 rfl (lv_at hl 0 rfl) ?_
  refine lv_iload_n hx hb dL_bar_3 rfl (lv_at hl 1 rfl) ?_
  refine lv_iload_n hx hb dL_bar_4 rfl (lv_at hl 2 rfl) ?_
  refine pq_xcallN hW [0, 2, 3] [1] (by decide) rfl rfl (fun f9 hw9 hC9 => vx_runV (C := RX12) (As := [.int n2, .int n3]) (rest := [.int 0, .ref ou]) ⟨hx, hb, hml, hown, hts⟩ (c_X12_bar l hst D cy sa _ L f9 h0 q1 q4 F_h0 F_q1 F_q4 n2 n3 hC9 E_h0 E_q1 E_q4) (cwV 2 hts (pp_gV pp287 pp286 pp288 pp289 pp123) rfl rfl rfl pd_X12_bar ⟨Nat.le_of_ble_eq_true rfl, Nat.le_of_ble_eq_true rfl⟩) (pq_xpreV hG hX hw9 hC9 (j := 0) rfl rfl) rfl rfl hl.1 rfl (lv_room (Nat.le_of_ble_eq_true rfl)) dL_bar_5 ⟨Nat.le_of_ble_eq_true rfl, Nat.le_of_ble_eq_true rfl⟩) (fun E9 ce q9 cs1 H locs hP hW hce hcv hcl => ?_)
  obtain ⟨rfl, hq, rfl⟩ := hP
  refine vx_catch1 (C := px_IAE) (name := "java/lang/IllegalArgumentException") htab hown (by decide) (by decide) (hpp _ pp221) (va_Nw.use rfl hX.2.1.1) hce hcv hcl ?_
  have hW : pq_W D _ s.heap L f _ [(ou, .inl (cy 2, 1, .inr (.inl g_ou)))] H locs := hW
  refine lv_astore (lv' := [(4, .ref q9), (0, .ref h0), (1, .int n2), (2, .int n3), (3, .ref ou)]) hx hb dL_bar_12 hl (by decide) rfl (fun ls hl => ?_)
  refine lv_iconst (v := 1) hx hb dL_bar_14 (by decide) ?_
  exact px_iret hx hb hr hlocks rfl hW ⟨_, rfl, Or.inl ⟨rfl, hq⟩⟩ (Nat.le_of_ble_eq_true rfl) (Nat.le_of_ble_eq_true rfl) dL_bar_15
set_option maxHeartbeats 4000000 in
set_option maxRecDepth 100000 in
/-- TongueHouseLaw.say on a new object -/
theorem c_L_say (l : Launch) (hst : l.stackTraces = false) (D : va_G) (cy : Nat → ClassId) (sa : Nat → Nat) (sz : Nat) (L : List Nat) (f : Nat → va_E) {q2 q4 q6 q15 q21 q23 q27 q39 q48 q61 q100 q114 q115 : Nat} (h0 ou q1 q8 : Nat) (F_h0 : List Value) (g_ou : Nat → Int64) (F_q1 : List Value) (F_q8 : List Value) (n2 : Int32) (n3 : Int32) (n4 : Int32) (hC : pq_C L f [(h0, .inr (12, F_h0)), (ou, .inl (cy 2, 1, .inr (.inl g_ou))), (q1, .inr (8, F_q1)), (q8, .inr (4, F_q8))]) (E_h0 : pq_E 17 F_h0 [(0, .ref q1), (1, .ref q23), (2, .ref q27), (5, .ref q39), (6, .ref q48), (7, .ref q61), (10, .ref q100), (11, .ref q114), (12, .ref q115), (15, .int 0)]) (E_q1 : pq_E 21 F_q1 [(0, .ref q2), (1, .ref q4), (2, .ref q6), (3, .ref q8), (5, .int (-1)), (10, .ref q15), (13, .int 0), (17, .int 0), (18, .int 0), (19, .ref q21)]) (E_q8 : pq_E 2 F_q8 [(1, .int 0)]) : vx_Met l yL_say (Cond.codeWith yL_say cL_say 6 (some .int) [(0, 12, 15, 19)] :: pp_ws) ({ frames := 8, cells := 1, slots := 6, locals := 145 }) (px_Pc D cy sa [.ref h0, .int n2, .int n3, .int n4, .ref ou] sz L f) (pq_Qi D sz L f [h0, ou, q1, q8] (fun r cs1 => ∃ g1 : Nat → Int64, cs1 = [(ou, .inl (cy 2, 1, .inr (.inl g1)))] ∧ ((r = 1 ∧ (True)) ∨ (r = 0 ∧ ¬ (True) ∧ g1 0 = 0)))) (pq_T D sz L f [h0, ou, q1, q8] (fun _ _ => False)) 1 6 (pw_A L f sz) := by
  refine vx_ofWH (cc := cL_say) (maxL := 6) (ret := (some .int)) (by decide) rfl ?_
  intro p e s m args below meth c s₁ B hml hv
  obtain ⟨rfl, hsz, hG, hX, hP, hD0⟩ := hv
  have hx := B.exec
  have hb := B.bytes
  have hr := B.returns
  have hts := atoms_spec (ws := Cond.codeWith yL_say cL_say 6 (some .int) [(0, 12, 15, 19)] :: pp_ws) B.pre
  have hpp := fun (w : Cond) (h : w ∈ pp_ws) => hts w (List.mem_cons_of_mem _ h)
  have hown : s.vm.findClass RL = some m.cls := findClass_of_methodNamed B.named
  have hlocks := B.notSynchronized
  have htab : tw_tab c [(0, 12, 15, 19)] := by
    obtain ⟨m', meth', c', h0', h1', h2', -, -, h5', -⟩ := Cond.codeWith_spec (hts (.codeWith yL_say cL_say 6 (some .int) [(0, 12, 15, 19)]) List.mem_cons_self)
    cases B.named.symm.trans h0'
    cases B.method.symm.trans h1'
    cases (Stand.of_body B).code.symm.trans h2'
    exact h5'
  have hw := pw_start (cy := cy) hsz hP hD0
  have hW := pq_start (as := [h0, ou, q1, q8]) hw hC rfl
  have hl := lv_entry ([.ref h0, .int n2, .int n3, .int n4, .ref ou]) (n := 6) (Nat.le_of_ble_eq_true rfl)
  rw [lg_entry_eq]
  generalize (lg_sl ([.ref h0, .int n2, .int n3, .int n4, .ref ou]) ++ List.replicate (6 - (lg_sl ([.ref h0, .int n2, .int n3, .int n4, .ref ou])).length) Slot.unset).toArray = ls at hl ⊢
  have hl : lv_has ls 6 [(0, .ref h0), (1, .int n2), (2, .int n3), (3, .int n4), (4, .ref ou)] := hl
  refine lv_aload hx hb dL_say_0 (lv_at hl 4 rfl) ?_
  refine lv_iconst (v := 0) hx hb dL_say_2 (by decide) ?_
  refine lv_aload_n hx hb dL_say_3 rfl (lv_at hl 0 rfl) ?_
  refine lv_iload_n hx hb dL_say_4 rfl (lv_at hl 1 rfl) ?_
  refine lv_iload_n hx hb dL_say_5 rfl (lv_at hl 2 rfl) ?_
  refine lv_iload_n hx hb dL_say_6 rfl (lv_at hl 3 rfl) ?_
  refine pq_xcallN hW [0, 2, 3] [1] (by decide) rfl rfl (fun f9 hw9 hC9 => vx_runV (C := RX12) (As := [.int n2, .int n3, .int n4]) (rest := [.int 0, .ref ou]) ⟨hx, hb, hml, hown, hts⟩ (c_X12_say l hst D cy sa _ L f9 h0 q1 q8 F_h0 F_q1 F_q8 n2 n3 n4 hC9 E_h0 E_q1 E_q8) (cwV 3 hts (pp_gV pp291 pp290 pp292 pp293 pp123) rfl rfl rfl pd_X12_say ⟨Nat.le_of_ble_eq_true rfl, Nat.le_of_ble_eq_true rfl⟩) (pq_xpreV hG hX hw9 hC9 (j := 0) rfl rfl) rfl rfl hl.1 rfl (lv_room (Nat.le_of_ble_eq_true rfl)) dL_say_7 ⟨Nat.le_of_ble_eq_true rfl, Nat.le_of_ble_eq_true rfl⟩) (fun E9 ce q9 cs1 H locs hP hW hce hcv hcl => ?_)
  obtain ⟨rfl, hq, rfl⟩ := hP
  refine vx_catch1 (C := px_IAE) (name := "java/lang/IllegalArgumentException") htab hown (by decide) (by decide) (hpp _ pp221) (va_Nw.use rfl hX.2.1.1) hce hcv hcl ?_
  have hW : pq_W D _ s.heap L f _ [(ou, .inl (cy 2, 1, .inr (.inl g_ou)))] H locs := hW
  refine lv_astore (lv' := [(5, .ref q9), (0, .ref h0), (1, .int n2), (2, .int n3), (3, .int n4), (4, .ref ou)]) hx hb dL_say_15 hl (by decide) rfl (fun ls hl => ?_)
  refine lv_iconst (v := 1) hx hb dL_say_17 (by decide) ?_
  exact px_iret hx hb hr hlocks rfl hW ⟨_, rfl, Or.inl ⟨rfl, hq⟩⟩ (Nat.le_of_ble_eq_true rfl) (Nat.le_of_ble_eq_true rfl) dL_say_18
set_option maxHeartbeats 4000000 in
set_option maxRecDepth 100000 in
/-- TongueHouseLaw.swap on a new object -/
theorem c_L_swap (l : Launch) (hst : l.stackTraces = false) (D : va_G) (cy : Nat → ClassId) (sa : Nat → Nat) (sz : Nat) (L : List Nat) (f : Nat → va_E) {q2 q4 q6 q15 q21 q23 q27 q39 q48 q61 q100 q114 q115 : Nat} (h0 ou q1 q8 : Nat) (F_h0 : List Value) (g_ou : Nat → Int64) (F_q1 : List Value) (F_q8 : List Value) (n2 : Int32) (n3 : Int32) (n4 : Int32) (hC : pq_C L f [(h0, .inr (12, F_h0)), (ou, .inl (cy 2, 1, .inr (.inl g_ou))), (q1, .inr (8, F_q1)), (q8, .inr (4, F_q8))]) (E_h0 : pq_E 17 F_h0 [(0, .ref q1), (1, .ref q23), (2, .ref q27), (5, .ref q39), (6, .ref q48), (7, .ref q61), (10, .ref q100), (11, .ref q114), (12, .ref q115), (15, .int 0)]) (E_q1 : pq_E 21 F_q1 [(0, .ref q2), (1, .ref q4), (2, .ref q6), (3, .ref q8), (5, .int (-1)), (10, .ref q15), (13, .int 0), (17, .int 0), (18, .int 0), (19, .ref q21)]) (E_q8 : pq_E 2 F_q8 [(1, .int 0)]) : vx_Met l yL_swap (Cond.codeWith yL_swap cL_swap 6 (some .int) [(0, 12, 15, 19)] :: pp_ws) ({ frames := 8, cells := 1, slots := 6, locals := 149 }) (px_Pc D cy sa [.ref h0, .int n2, .int n3, .int n4, .ref ou] sz L f) (pq_Qi D sz L f [h0, ou, q1, q8] (fun r cs1 => ∃ g1 : Nat → Int64, cs1 = [(ou, .inl (cy 2, 1, .inr (.inl g1)))] ∧ ((r = 1 ∧ (True)) ∨ (r = 0 ∧ ¬ (True) ∧ g1 0 = 0)))) (pq_T D sz L f [h0, ou, q1, q8] (fun _ _ => False)) 1 6 (pw_A L f sz) := by
  refine vx_ofWH (cc := cL_swap) (maxL := 6) (ret := (some .int)) (by decide) rfl ?_
  intro p e s m args below meth c s₁ B hml hv
  obtain ⟨rfl, hsz, hG, hX, hP, hD0⟩ := hv
  have hx := B.exec
  have hb := B.bytes
  have hr := B.returns
  have hts := atoms_spec (ws := Cond.codeWith yL_swap cL_swap 6 (some .int) [(0, 12, 15, 19)] :: pp_ws) B.pre
  have hpp := fun (w : Cond) (h : w ∈ pp_ws) => hts w (List.mem_cons_of_mem _ h)
  have hown : s.vm.findClass RL = some m.cls := findClass_of_methodNamed B.named
  have hlocks := B.notSynchronized
  have htab : tw_tab c [(0, 12, 15, 19)] := by
    obtain ⟨m', meth', c', h0', h1', h2', -, -, h5', -⟩ := Cond.codeWith_spec (hts (.codeWith yL_swap cL_swap 6 (some .int) [(0, 12, 15, 19)]) List.mem_cons_self)
    cases B.named.symm.trans h0'
    cases B.method.symm.trans h1'
    cases (Stand.of_body B).code.symm.trans h2'
    exact h5'
  have hw := pw_start (cy := cy) hsz hP hD0
  have hW := pq_start (as := [h0, ou, q1, q8]) hw hC rfl
  have hl := lv_entry ([.ref h0, .int n2, .int n3, .int n4, .ref ou]) (n := 6) (Nat.le_of_ble_eq_true rfl)
  rw [lg_entry_eq]
  generalize (lg_sl ([.ref h0, .int n2, .int n3, .int n4, .ref ou]) ++ List.replicate (6 - (lg_sl ([.ref h0, .int n2, .int n3, .int n4, .ref ou])).length) Slot.unset).toArray = ls at hl ⊢
  have hl : lv_has ls 6 [(0, .ref h0), (1, .int n2), (2, .int n3), (3, .int n4), (4, .ref ou)] := hl
  refine lv_aload hx hb dL_swap_0 (lv_at hl 4 rfl) ?_
  refine lv_iconst (v := 0) hx hb dL_swap_2 (by decide) ?_
  refine lv_aload_n hx hb dL_swap_3 rfl (lv_at hl 0 rfl) ?_
  refine lv_iload_n hx hb dL_swap_4 rfl (lv_at hl 1 rfl) ?_
  refine lv_iload_n hx hb dL_swap_5 rfl (lv_at hl 2 rfl) ?_
  refine lv_iload_n hx hb dL_swap_6 rfl (lv_at hl 3 rfl) ?_
  refine pq_xcallN hW [0, 2, 3] [1] (by decide) rfl rfl (fun f9 hw9 hC9 => vx_runV (C := RX12) (As := [.int n2, .int n3, .int n4]) (rest := [.int 0, .ref ou]) ⟨hx, hb, hml, hown, hts⟩ (c_X12_swap l hst D cy sa _ L f9 h0 q1 q8 F_h0 F_q1 F_q8 n2 n3 n4 hC9 E_h0 E_q1 E_q8) (cwV 3 hts (pp_gV pp295 pp294 pp296 pp297 pp123) rfl rfl rfl pd_X12_swap ⟨Nat.le_of_ble_eq_true rfl, Nat.le_of_ble_eq_true rfl⟩) (pq_xpreV hG hX hw9 hC9 (j := 0) rfl rfl) rfl rfl hl.1 rfl (lv_room (Nat.le_of_ble_eq_true rfl)) dL_swap_7 ⟨Nat.le_of_ble_eq_true rfl, Nat.le_of_ble_eq_true rfl⟩) (fun E9 ce q9 cs1 H locs hP hW hce hcv hcl => ?_)
  obtain ⟨rfl, hq, rfl⟩ := hP
  refine vx_catch1 (C := px_IAE) (name := "java/lang/IllegalArgumentException") htab hown (by decide) (by decide) (hpp _ pp221) (va_Nw.use rfl hX.2.1.1) hce hcv hcl ?_
  have hW : pq_W D _ s.heap L f _ [(ou, .inl (cy 2, 1, .inr (.inl g_ou)))] H locs := hW
  refine lv_astore (lv' := [(5, .ref q9), (0, .ref h0), (1, .int n2), (2, .int n3), (3, .int n4), (4, .ref ou)]) hx hb dL_swap_15 hl (by decide) rfl (fun ls hl => ?_)
  refine lv_iconst (v := 1) hx hb dL_swap_17 (by decide) ?_
  exact px_iret hx hb hr hlocks rfl hW ⟨_, rfl, Or.inl ⟨rfl, hq⟩⟩ (Nat.le_of_ble_eq_true rfl) (Nat.le_of_ble_eq_true rfl) dL_swap_18
set_option maxHeartbeats 4000000 in
set_option maxRecDepth 100000 in
/-- TongueHouseLaw.add on a new object -/
theorem c_L_add (l : Launch) (hst : l.stackTraces = false) (D : va_G) (cy : Nat → ClassId) (sa : Nat → Nat) (sz : Nat) (L : List Nat) (f : Nat → va_E) {q2 q4 q6 q15 q21 q23 q27 q39 q48 q61 q100 q114 q115 : Nat} (h0 ou q1 q8 : Nat) (F_h0 : List Value) (g_ou : Nat → Int64) (F_q1 : List Value) (F_q8 : List Value) (n2 : Int32) (hC : pq_C L f [(h0, .inr (12, F_h0)), (ou, .inl (cy 2, 1, .inr (.inl g_ou))), (q1, .inr (8, F_q1)), (q8, .inr (4, F_q8))]) (E_h0 : pq_E 17 F_h0 [(0, .ref q1), (1, .ref q23), (2, .ref q27), (5, .ref q39), (6, .ref q48), (7, .ref q61), (10, .ref q100), (11, .ref q114), (12, .ref q115), (15, .int 0)]) (E_q1 : pq_E 21 F_q1 [(0, .ref q2), (1, .ref q4), (2, .ref q6), (3, .ref q8), (5, .int (-1)), (10, .ref q15), (13, .int 0), (17, .int 0), (18, .int 0), (19, .ref q21)]) (E_q8 : pq_E 2 F_q8 [(1, .int 0)]) : vx_Met l yL_add (Cond.codeWith yL_add cL_add 4 (some .int) [(0, 9, 12, 19), (0, 9, 15, 13)] :: pp_ws) ({ frames := 8, cells := 1, slots := 6, locals := 143 }) (px_Pc D cy sa [.ref h0, .int n2, .ref ou] sz L f) (pq_Qi D sz L f [h0, ou, q1, q8] (fun r cs1 => ∃ g1 : Nat → Int64, cs1 = [(ou, .inl (cy 2, 1, .inr (.inl g1)))] ∧ ((r = 1 ∧ (True)) ∨ (r = 0 ∧ ¬ (True) ∧ g1 0 = 0)))) (pq_T D sz L f [h0, ou, q1, q8] (fun _ _ => False)) 1 6 (pw_A L f sz) := by
  refine vx_ofWH (cc := cL_add) (maxL := 4) (ret := (some .int)) (by decide) rfl ?_
  intro p e s m args below meth c s₁ B hml hv
  obtain ⟨rfl, hsz, hG, hX, hP, hD0⟩ := hv
  have hx := B.exec
  have hb := B.bytes
  have hr := B.returns
  have hts := atoms_spec (ws := Cond.codeWith yL_add cL_add 4 (some .int) [(0, 9, 12, 19), (0, 9, 15, 13)] :: pp_ws) B.pre
  have hpp := fun (w : Cond) (h : w ∈ pp_ws) => hts w (List.mem_cons_of_mem _ h)
  have hown : s.vm.findClass RL = some m.cls := findClass_of_methodNamed B.named
  have hlocks := B.notSynchronized
  have htab : tw_tab c [(0, 9, 12, 19), (0, 9, 15, 13)] := by
    obtain ⟨m', meth', c', h0', h1', h2', -, -, h5', -⟩ := Cond.codeWith_spec (hts (.codeWith yL_add cL_add 4 (some .int) [(0, 9, 12, 19), (0, 9, 15, 13)]) List.mem_cons_self)
    cases B.named.symm.trans h0'
    cases B.method.symm.trans h1'
    cases (Stand.of_body B).code.symm.trans h2'
    exact h5'
  have hw := pw_start (cy := cy) hsz hP hD0
  have hW := pq_start (as := [h0, ou, q1, q8]) hw hC rfl
  have hl := lv_entry ([.ref h0, .int n2, .ref ou]) (n := 4) (Nat.le_of_ble_eq_true rfl)
  rw [lg_entry_eq]
  generalize (lg_sl ([.ref h0, .int n2, .ref ou]) ++ List.replicate (4 - (lg_sl ([.ref h0, .int n2, .ref ou])).length) Slot.unset).toArray = ls at hl ⊢
  have hl : lv_has ls 4 [(0, .ref h0), (1, .int n2), (2, .ref ou)] := hl
  refine lv_aload_n hx hb dL_add_0 rfl (lv_at hl 2 rfl) ?_
  refine lv_iconst (v := 0) hx hb dL_add_1 (by decide) ?_
  refine lv_aload_n hx hb dL_add_2 rfl (lv_at hl 0 rfl) ?_
  refine lv_iload_n hx hb dL_add_3 rfl (lv_at hl 1 rfl) ?_
  refine pq_xcallN hW [0, 2, 3] [1] (by decide) rfl rfl (fun f9 hw9 hC9 => vx_runV (C := RX12) (As := [.int n2]) (rest := [.int 0, .ref ou]) ⟨hx, hb, hml, hown, hts⟩ (c_X12_add l hst D cy sa _ L f9 h0 q1 q8 F_h0 F_q1 F_q8 n2 hC9 E_h0 E_q1 E_q8) (cwV 1 hts (pp_gV pp299 pp298 pp300 pp301 pp123) rfl rfl rfl pd_X12_add ⟨Nat.le_of_ble_eq_true rfl, Nat.le_of_ble_eq_true rfl⟩) (pq_xpreV hG hX hw9 hC9 (j := 0) rfl rfl) rfl rfl hl.1 rfl (lv_room (Nat.le_of_ble_eq_true rfl)) dL_add_4 ⟨Nat.le_of_ble_eq_true rfl, Nat.le_of_ble_eq_true rfl⟩) (fun E9 ce q9 cs1 H locs hP hW hce hcv hcl => ?_)
  obtain ⟨rfl, hq, rfl⟩ := hP
  refine vx_catch1 (C := px_IAE) (name := "java/lang/IllegalArgumentException") htab hown (by decide) (by decide) (hpp _ pp221) (va_Nw.use rfl hX.2.1.1) hce hcv hcl ?_
  have hW : pq_W D _ s.heap L f _ [(ou, .inl (cy 2, 1, .inr (.inl g_ou)))] H locs := hW
  refine lv_astore_n (lv' := [(3, .ref q9), (0, .ref h0), (1, .int n2), (2, .ref ou)]) hx hb dL_add_12 rfl hl (by decide) rfl (fun ls hl => ?_)
  refine lv_iconst (v := 1) hx hb dL_add_13 (by decide) ?_
  exact px_iret hx hb hr hlocks rfl hW ⟨_, rfl, Or.inl ⟨rfl, hq⟩⟩ (Nat.le_of_ble_eq_true rfl) (Nat.le_of_ble_eq_true rfl) dL_add_14
set_option maxHeartbeats 4000000 in
set_option maxRecDepth 100000 in
/-- TongueHouseLaw.ask on a new object -/
theorem c_L_ask (l : Launch) (hst : l.stackTraces = false) (D : va_G) (cy : Nat → ClassId) (sa : Nat → Nat) (sz : Nat) (L : List Nat) (f : Nat → va_E) {q2 q4 q6 q15 q21 q23 q27 q39 q48 q61 q100 q114 q115 : Nat} (h0 ou q1 q8 : Nat) (F_h0 : List Value) (g_ou : Nat → Int64) (F_q1 : List Value) (F_q8 : List Value) (n2 : Int32) (hC : pq_C L f [(h0, .inr (12, F_h0)), (ou, .inl (cy 2, 1, .inr (.inl g_ou))), (q1, .inr (8, F_q1)), (q8, .inr (4, F_q8))]) (E_h0 : pq_E 17 F_h0 [(0, .ref q1), (1, .ref q23), (2, .ref q27), (5, .ref q39), (6, .ref q48), (7, .ref q61), (10, .ref q100), (11, .ref q114), (12, .ref q115), (15, .int 0)]) (E_q1 : pq_E 21 F_q1 [(0, .ref q2), (1, .ref q4), (2, .ref q6), (3, .ref q8), (5, .int (-1)), (10, .ref q15), (13, .int 0), (17, .int 0), (18, .int 0), (19, .ref q21)]) (E_q8 : pq_E 2 F_q8 [(1, .int 0)]) : vx_Met l yL_ask (Cond.codeWith yL_ask cL_ask 4 (some .int) [(0, 9, 12, 19)] :: pp_ws) ({ frames := 8, cells := 1, slots := 6, locals := 144 }) (px_Pc D cy sa [.ref h0, .int n2, .ref ou] sz L f) (pq_Qi D sz L f [h0, ou, q1, q8] (fun r cs1 => ∃ g1 : Nat → Int64, cs1 = [(ou, .inl (cy 2, 1, .inr (.inl g1)))] ∧ ((r = 1 ∧ (True)) ∨ (r = 0 ∧ ¬ (True) ∧ g1 0 = 0)))) (pq_T D sz L f [h0, ou, q1, q8] (fun _ _ => False)) 1 6 (pw_A L f sz) := by
  refine vx_ofWH (cc := cL_ask) (maxL := 4) (ret := (some .int)) (by decide) rfl ?_
  intro p e s m args below meth c s₁ B hml hv
  obtain ⟨rfl, hsz, hG, hX, hP, hD0⟩ := hv
  have hx := B.exec
  have hb := B.bytes
  have hr := B.returns
  have hts := atoms_spec (ws := Cond.codeWith yL_ask cL_ask 4 (some .int) [(0, 9, 12, 19)] :: pp_ws) B.pre
  have hpp := fun (w : Cond) (h : w ∈ pp_ws) => hts w (List.mem_cons_of_mem _ h)
  have hown : s.vm.findClass RL = some m.cls := findClass_of_methodNamed B.named
  have hlocks := B.notSynchronized
  have htab : tw_tab c [(0, 9, 12, 19)] := by
    obtain ⟨m', meth', c', h0', h1', h2', -, -, h5', -⟩ := Cond.codeWith_spec (hts (.codeWith yL_ask cL_ask 4 (some .int) [(0, 9, 12, 19)]) List.mem_cons_self)
    cases B.named.symm.trans h0'
    cases B.method.symm.trans h1'
    cases (Stand.of_body B).code.symm.trans h2'
    exact h5'
  have hw := pw_start (cy := cy) hsz hP hD0
  have hW := pq_start (as := [h0, ou, q1, q8]) hw hC rfl
  have hl := lv_entry ([.ref h0, .int n2, .ref ou]) (n := 4) (Nat.le_of_ble_eq_true rfl)
  rw [lg_entry_eq]
  generalize (lg_sl ([.ref h0, .int n2, .ref ou]) ++ List.replicate (4 - (lg_sl ([.ref h0, .int n2, .ref ou])).length) Slot.unset).toArray = ls at hl ⊢
  have hl : lv_has ls 4 [(0, .ref h0), (1, .int n2), (2, .ref ou)] := hl
  refine lv_aload_n hx hb dL_ask_0 rfl (lv_at hl 2 rfl) ?_
  refine lv_iconst (v := 0) hx hb dL_ask_1 (by decide) ?_
  refine lv_aload_n hx hb dL_ask_2 rfl (lv_at hl 0 rfl) ?_
  refine lv_iload_n hx hb dL_ask_3 rfl (lv_at hl 1 rfl) ?_
  refine pq_xcallN hW [0, 2, 3] [1] (by decide) rfl rfl (fun f9 hw9 hC9 => vx_runV (C := RX12) (As := [.int n2]) (rest := [.int 0, .ref ou]) ⟨hx, hb, hml, hown, hts⟩ (c_X12_ask l hst D cy sa _ L f9 h0 q1 q8 F_h0 F_q1 F_q8 n2 hC9 E_h0 E_q1 E_q8) (cwV 1 hts (pp_gV pp303 pp302 pp304 pp305 pp123) rfl rfl rfl pd_X12_ask ⟨Nat.le_of_ble_eq_true rfl, Nat.le_of_ble_eq_true rfl⟩) (pq_xpreV hG hX hw9 hC9 (j := 0) rfl rfl) rfl rfl hl.1 rfl (lv_room (Nat.le_of_ble_eq_true rfl)) dL_ask_4 ⟨Nat.le_of_ble_eq_true rfl, Nat.le_of_ble_eq_true rfl⟩) (fun E9 ce q9 cs1 H locs hP hW hce hcv hcl => ?_)
  obtain ⟨rfl, hq, rfl⟩ := hP
  refine vx_catch1 (C := px_IAE) (name := "java/lang/IllegalArgumentException") htab hown (by decide) (by decide) (hpp _ pp221) (va_Nw.use rfl hX.2.1.1) hce hcv hcl ?_
  have hW : pq_W D _ s.heap L f _ [(ou, .inl (cy 2, 1, .inr (.inl g_ou)))] H locs := hW
  refine lv_astore_n (lv' := [(3, .ref q9), (0, .ref h0), (1, .int n2), (2, .ref ou)]) hx hb dL_ask_12 rfl hl (by decide) rfl (fun ls hl => ?_)
  refine lv_iconst (v := 1) hx hb dL_ask_13 (by decide) ?_
  exact px_iret hx hb hr hlocks rfl hW ⟨_, rfl, Or.inl ⟨rfl, hq⟩⟩ (Nat.le_of_ble_eq_true rfl) (Nat.le_of_ble_eq_true rfl) dL_ask_14
set_option maxHeartbeats 4000000 in
set_option maxRecDepth 100000 in
/-- TongueHouseLaw.mend on a new object -/
theorem c_L_mend (l : Launch) (hst : l.stackTraces = false) (D : va_G) (cy : Nat → ClassId) (sa : Nat → Nat) (sz : Nat) (L : List Nat) (f : Nat → va_E) {q2 q4 q6 q15 q21 q23 q27 q39 q48 q61 q100 q114 q115 : Nat} (h0 ou q1 q8 : Nat) (F_h0 : List Value) (g_ou : Nat → Int64) (F_q1 : List Value) (F_q8 : List Value) (n2 : Int32) (n3 : Int32) (hC : pq_C L f [(h0, .inr (12, F_h0)), (ou, .inl (cy 2, 1, .inr (.inl g_ou))), (q1, .inr (8, F_q1)), (q8, .inr (4, F_q8))]) (E_h0 : pq_E 17 F_h0 [(0, .ref q1), (1, .ref q23), (2, .ref q27), (5, .ref q39), (6, .ref q48), (7, .ref q61), (10, .ref q100), (11, .ref q114), (12, .ref q115), (15, .int 0)]) (E_q1 : pq_E 21 F_q1 [(0, .ref q2), (1, .ref q4), (2, .ref q6), (3, .ref q8), (5, .int (-1)), (10, .ref q15), (13, .int 0), (17, .int 0), (18, .int 0), (19, .ref q21)]) (E_q8 : pq_E 2 F_q8 [(1, .int 0)]) : vx_Met l yL_mend (Cond.codeWith yL_mend cL_mend 5 (some .int) [(0, 10, 13, 19)] :: pp_ws) ({ frames := 8, cells := 1, slots := 6, locals := 150 }) (px_Pc D cy sa [.ref h0, .int n2, .int n3, .ref ou] sz L f) (pq_Qi D sz L f [h0, ou, q1, q8] (fun r cs1 => ∃ g1 : Nat → Int64, cs1 = [(ou, .inl (cy 2, 1, .inr (.inl g1)))] ∧ ((r = 1 ∧ (True)) ∨ (r = 0 ∧ ¬ (True) ∧ g1 0 = 0)))) (pq_T D sz L f [h0, ou, q1, q8] (fun _ _ => False)) 1 6 (pw_A L f sz) := by
  refine vx_ofWH (cc := cL_mend) (maxL := 5) (ret := (some .int)) (by decide) rfl ?_
  intro p e s m args below meth c s₁ B hml hv
  obtain ⟨rfl, hsz, hG, hX, hP, hD0⟩ := hv
  have hx := B.exec
  have hb := B.bytes
  have hr := B.returns
  have hts := atoms_spec (ws := Cond.codeWith yL_mend cL_mend 5 (some .int) [(0, 10, 13, 19)] :: pp_ws) B.pre
  have hpp := fun (w : Cond) (h : w ∈ pp_ws) => hts w (List.mem_cons_of_mem _ h)
  have hown : s.vm.findClass RL = some m.cls := findClass_of_methodNamed B.named
  have hlocks := B.notSynchronized
  have htab : tw_tab c [(0, 10, 13, 19)] := by
    obtain ⟨m', meth', c', h0', h1', h2', -, -, h5', -⟩ := Cond.codeWith_spec (hts (.codeWith yL_mend cL_mend 5 (some .int) [(0, 10, 13, 19)]) List.mem_cons_self)
    cases B.named.symm.trans h0'
    cases B.method.symm.trans h1'
    cases (Stand.of_body B).code.symm.trans h2'
    exact h5'
  have hw := pw_start (cy := cy) hsz hP hD0
  have hW := pq_start (as := [h0, ou, q1, q8]) hw hC rfl
  have hl := lv_entry ([.ref h0, .int n2, .int n3, .ref ou]) (n := 5) (Nat.le_of_ble_eq_true rfl)
  rw [lg_entry_eq]
  generalize (lg_sl ([.ref h0, .int n2, .int n3, .ref ou]) ++ List.replicate (5 - (lg_sl ([.ref h0, .int n2, .int n3, .ref ou])).length) Slot.unset).toArray = ls at hl ⊢
  have hl : lv_has ls 5 [(0, .ref h0), (1, .int n2), (2, .int n3), (3, .ref ou)] := hl
  refine lv_aload_n hx hb dL_mend_0 rfl (lv_at hl 3 rfl) ?_
  refine lv_iconst (v := 0) hx hb dL_mend_1 (by decide) ?_
  refine lv_aload_n hx hb dL_mend_2 rfl (lv_at hl 0 rfl) ?_
  refine lv_iload_n hx hb dL_mend_3 rfl (lv_at hl 1 rfl) ?_
  refine lv_iload_n hx hb dL_mend_4 rfl (lv_at hl 2 rfl) ?_
  refine pq_xcallN hW [0, 2, 3] [1] (by decide) rfl rfl (fun f9 hw9 hC9 => vx_runV (C := RX12) (As := [.int n2, .int n3]) (rest := [.int 0, .ref ou]) ⟨hx, hb, hml, hown, hts⟩ (c_X12_mend l hst D cy sa _ L f9 h0 q1 q8 F_h0 F_q1 F_q8 n2 n3 hC9 E_h0 E_q1 E_q8) (cwV 2 hts (pp_gV pp307 pp306 pp308 pp309 pp123) rfl rfl rfl pd_X12_mend ⟨Nat.le_of_ble_eq_true rfl, Nat.le_of_ble_eq_true rfl⟩) (pq_xpreV hG hX hw9 hC9 (j := 0) rfl rfl) rfl rfl hl.1 rfl (lv_room (Nat.le_of_ble_eq_true rfl)) dL_mend_5 ⟨Nat.le_of_ble_eq_true rfl, Nat.le_of_ble_eq_true rfl⟩) (fun E9 ce q9 cs1 H locs hP hW hce hcv hcl => ?_)
  obtain ⟨rfl, hq, rfl⟩ := hP
  refine vx_catch1 (C := px_IAE) (name := "java/lang/IllegalArgumentException") htab hown (by decide) (by decide) (hpp _ pp221) (va_Nw.use rfl hX.2.1.1) hce hcv hcl ?_
  have hW : pq_W D _ s.heap L f _ [(ou, .inl (cy 2, 1, .inr (.inl g_ou)))] H locs := hW
  refine lv_astore (lv' := [(4, .ref q9), (0, .ref h0), (1, .int n2), (2, .int n3), (3, .ref ou)]) hx hb dL_mend_13 hl (by decide) rfl (fun ls hl => ?_)
  refine lv_iconst (v := 1) hx hb dL_mend_15 (by decide) ?_
  exact px_iret hx hb hr hlocks rfl hW ⟨_, rfl, Or.inl ⟨rfl, hq⟩⟩ (Nat.le_of_ble_eq_true rfl) (Nat.le_of_ble_eq_true rfl) dL_mend_16
