set_option maxHeartbeats 4000000 in
set_option maxRecDepth 100000 in
/-- TongueHouse.say on a new object -/
theorem c_X12_say (l : Launch) (hst : l.stackTraces = false) (D : va_G) (cy : Nat → ClassId) (sa : Nat → Nat) (sz : Nat) (L : List Nat) (f : Nat → va_E) {q2 q4 q6 q15 q21 q23 q27 q39 q48 q61 q100 q114 q115 : Nat} (h0 q1 q8 : Nat) (F_h0 : List Value) (F_q1 : List Value) (F_q8 : List Value) (n1 : Int32) (n2 : Int32) (n3 : Int32) (hC : pq_C L f [(h0, .inr (12, F_h0)), (q1, .inr (8, F_q1)), (q8, .inr (4, F_q8))]) (E_h0 : pq_E 17 F_h0 [(0, .ref q1), (1, .ref q23), (2, .ref q27), (5, .ref q39), (6, .ref q48), (7, .ref q61), (10, .ref q100), (11, .ref q114), (12, .ref q115), (15, .int 0)]) (E_q1 : pq_E 21 F_q1 [(0, .ref q2), (1, .ref q4), (2, .ref q6), (3, .ref q8), (5, .int (-1)), (10, .ref q15), (13, .int 0), (17, .int 0), (18, .int 0), (19, .ref q21)]) (E_q8 : pq_E 2 F_q8 [(1, .int 0)]) : vx_Met l yX12_say (Cond.code yX12_say cX12_say 5 (some .int) :: pp_ws) ({ frames := 7, cells := 1, slots := 6, locals := 121 }) (px_Pc D cy sa [.ref h0, .int n1, .int n2, .int n3] sz L f) (fun _ _ _ _ => False) (pq_T D sz L f [h0, q1, q8] (fun E9 cs1 => E9 = px_IAE ∧ (True) ∧ cs1 = [])) 1 6 (pw_A L f sz) := by
  refine vx_ofW (cc := cX12_say) (maxL := 5) (ret := (some .int)) (by decide) rfl ?_
  intro p e s m args below meth c s₁ B hml hno hv
  obtain ⟨rfl, hsz, hG, hX, hP, hD0⟩ := hv
  have hx := B.exec
  have hb := B.bytes
  have hr := B.returns
  have hts := atoms_spec (ws := Cond.code yX12_say cX12_say 5 (some .int) :: pp_ws) B.pre
  have hpp := fun (w : Cond) (h : w ∈ pp_ws) => hts w (List.mem_cons_of_mem _ h)
  have hown : s.vm.findClass RX12 = some m.cls := findClass_of_methodNamed B.named
  have hlocks := B.notSynchronized
  have hw := pw_start (cy := cy) hsz hP hD0
  have hW := pq_start (as := [h0, q1, q8]) hw hC rfl
  have hl := lv_entry ([.ref h0, .int n1, .int n2, .int n3]) (n := 5) (Nat.le_of_ble_eq_true rfl)
  rw [lg_entry_eq]
  generalize (lg_sl ([.ref h0, .int n1, .int n2, .int n3]) ++ List.replicate (5 - (lg_sl ([.ref h0, .int n1, .int n2, .int n3])).length) Slot.unset).toArray = ls at hl ⊢
  have hl : lv_has ls 5 [(0, .ref h0), (1, .int n1), (2, .int n2), (3, .int n3)] := hl
  refine lv_aload_n hx hb dX12_say_0 rfl (lv_at hl 0 rfl) ?_
  refine lv_iload_n hx hb dX12_say_1 rfl (lv_at hl 1 rfl) ?_
  refine pq_xcallN hW [0, 1, 2] [] (by decide) rfl rfl (fun f9 hw9 hC9 => vx_runV (C := RX12) (As := [.int n1]) (rest := []) ⟨hx, hb, hml, hown, hts⟩ (c_X12_tongueAt l hst D cy sa _ L f9 h0 q1 q8 F_h0 F_q1 F_q8 n1 hC9 E_h0 E_q1 E_q8) (cwV 1 hts (pp_gV pp120 pp119 pp121 pp122 pp123) rfl rfl rfl pd_X12_tongueAt ⟨Nat.le_of_ble_eq_true rfl, Nat.le_of_ble_eq_true rfl⟩) (pq_xpreV hG hX hw9 hC9 (j := 0) rfl rfl) rfl rfl hl.1 rfl (lv_room (Nat.le_of_ble_eq_true rfl)) dX12_say_2 ⟨Nat.le_of_ble_eq_true rfl, Nat.le_of_ble_eq_true rfl⟩) (fun E9 ce q9 cs1 H locs hP hW hce hcv hcl => ?_)
  obtain ⟨rfl, hq, rfl⟩ := hP
  exact pq_out hno hlocks hce hcv hcl (hW.pick (cs2 := []) [] (by decide) rfl) ⟨rfl, trivial, rfl⟩ (Nat.le_of_ble_eq_true rfl) (Nat.le_of_ble_eq_true rfl)
set_option maxHeartbeats 4000000 in
set_option maxRecDepth 100000 in
/-- TongueHouse.swap on a new object -/
theorem c_X12_swap (l : Launch) (hst : l.stackTraces = false) (D : va_G) (cy : Nat → ClassId) (sa : Nat → Nat) (sz : Nat) (L : List Nat) (f : Nat → va_E) {q2 q4 q6 q15 q21 q23 q27 q39 q48 q61 q100 q114 q115 : Nat} (h0 q1 q8 : Nat) (F_h0 : List Value) (F_q1 : List Value) (F_q8 : List Value) (n1 : Int32) (n2 : Int32) (n3 : Int32) (hC : pq_C L f [(h0, .inr (12, F_h0)), (q1, .inr (8, F_q1)), (q8, .inr (4, F_q8))]) (E_h0 : pq_E 17 F_h0 [(0, .ref q1), (1, .ref q23), (2, .ref q27), (5, .ref q39), (6, .ref q48), (7, .ref q61), (10, .ref q100), (11, .ref q114), (12, .ref q115), (15, .int 0)]) (E_q1 : pq_E 21 F_q1 [(0, .ref q2), (1, .ref q4), (2, .ref q6), (3, .ref q8), (5, .int (-1)), (10, .ref q15), (13, .int 0), (17, .int 0), (18, .int 0), (19, .ref q21)]) (E_q8 : pq_E 2 F_q8 [(1, .int 0)]) : vx_Met l yX12_swap (Cond.code yX12_swap cX12_swap 9 (some .int) :: pp_ws) ({ frames := 7, cells := 1, slots := 6, locals := 121 }) (px_Pc D cy sa [.ref h0, .int n1, .int n2, .int n3] sz L f) (fun _ _ _ _ => False) (pq_T D sz L f [h0, q1, q8] (fun E9 cs1 => E9 = px_IAE ∧ (True) ∧ cs1 = [])) 1 6 (pw_A L f sz) := by
  refine vx_ofW (cc := cX12_swap) (maxL := 9) (ret := (some .int)) (by decide) rfl ?_
  intro p e s m args below meth c s₁ B hml hno hv
  obtain ⟨rfl, hsz, hG, hX, hP, hD0⟩ := hv
  have hx := B.exec
  have hb := B.bytes
  have hr := B.returns
  have hts := atoms_spec (ws := Cond.code yX12_swap cX12_swap 9 (some .int) :: pp_ws) B.pre
  have hpp := fun (w : Cond) (h : w ∈ pp_ws) => hts w (List.mem_cons_of_mem _ h)
  have hown : s.vm.findClass RX12 = some m.cls := findClass_of_methodNamed B.named
  have hlocks := B.notSynchronized
  have hw := pw_start (cy := cy) hsz hP hD0
  have hW := pq_start (as := [h0, q1, q8]) hw hC rfl
  have hl := lv_entry ([.ref h0, .int n1, .int n2, .int n3]) (n := 9) (Nat.le_of_ble_eq_true rfl)
  rw [lg_entry_eq]
  generalize (lg_sl ([.ref h0, .int n1, .int n2, .int n3]) ++ List.replicate (9 - (lg_sl ([.ref h0, .int n1, .int n2, .int n3])).length) Slot.unset).toArray = ls at hl ⊢
  have hl : lv_has ls 9 [(0, .ref h0), (1, .int n1), (2, .int n2), (3, .int n3)] := hl
  refine lv_aload_n hx hb dX12_swap_0 rfl (lv_at hl 0 rfl) ?_
  refine lv_iload_n hx hb dX12_swap_1 rfl (lv_at hl 1 rfl) ?_
  refine pq_xcallN hW [0, 1, 2] [] (by decide) rfl rfl (fun f9 hw9 hC9 => vx_runV (C := RX12) (As := [.int n1]) (rest := []) ⟨hx, hb, hml, hown, hts⟩ (c_X12_tongueAt l hst D cy sa _ L f9 h0 q1 q8 F_h0 F_q1 F_q8 n1 hC9 E_h0 E_q1 E_q8) (cwV 1 hts (pp_gV pp120 pp119 pp121 pp122 pp123) rfl rfl rfl pd_X12_tongueAt ⟨Nat.le_of_ble_eq_true rfl, Nat.le_of_ble_eq_true rfl⟩) (pq_xpreV hG hX hw9 hC9 (j := 0) rfl rfl) rfl rfl hl.1 rfl (lv_room (Nat.le_of_ble_eq_true rfl)) dX12_swap_2 ⟨Nat.le_of_ble_eq_true rfl, Nat.le_of_ble_eq_true rfl⟩) (fun E9 ce q9 cs1 H locs hP hW hce hcv hcl => ?_)
  obtain ⟨rfl, hq, rfl⟩ := hP
  exact pq_out hno hlocks hce hcv hcl (hW.pick (cs2 := []) [] (by decide) rfl) ⟨rfl, trivial, rfl⟩ (Nat.le_of_ble_eq_true rfl) (Nat.le_of_ble_eq_true rfl)
set_option maxHeartbeats 4000000 in
set_option maxRecDepth 100000 in
/-- TongueHouse.add on a new object -/
theorem c_X12_add (l : Launch) (hst : l.stackTraces = false) (D : va_G) (cy : Nat → ClassId) (sa : Nat → Nat) (sz : Nat) (L : List Nat) (f : Nat → va_E) {q2 q4 q6 q15 q21 q23 q27 q39 q48 q61 q100 q114 q115 : Nat} (h0 q1 q8 : Nat) (F_h0 : List Value) (F_q1 : List Value) (F_q8 : List Value) (n1 : Int32) (hC : pq_C L f [(h0, .inr (12, F_h0)), (q1, .inr (8, F_q1)), (q8, .inr (4, F_q8))]) (E_h0 : pq_E 17 F_h0 [(0, .ref q1), (1, .ref q23), (2, .ref q27), (5, .ref q39), (6, .ref q48), (7, .ref q61), (10, .ref q100), (11, .ref q114), (12, .ref q115), (15, .int 0)]) (E_q1 : pq_E 21 F_q1 [(0, .ref q2), (1, .ref q4), (2, .ref q6), (3, .ref q8), (5, .int (-1)), (10, .ref q15), (13, .int 0), (17, .int 0), (18, .int 0), (19, .ref q21)]) (E_q8 : pq_E 2 F_q8 [(1, .int 0)]) : vx_Met l yX12_add (Cond.code yX12_add cX12_add 3 (some .int) :: pp_ws) ({ frames := 7, cells := 1, slots := 6, locals := 121 }) (px_Pc D cy sa [.ref h0, .int n1] sz L f) (fun _ _ _ _ => False) (pq_T D sz L f [h0, q1, q8] (fun E9 cs1 => E9 = px_IAE ∧ (True) ∧ cs1 = [])) 1 6 (pw_A L f sz) := by
  refine vx_ofW (cc := cX12_add) (maxL := 3) (ret := (some .int)) (by decide) rfl ?_
  intro p e s m args below meth c s₁ B hml hno hv
  obtain ⟨rfl, hsz, hG, hX, hP, hD0⟩ := hv
  have hx := B.exec
  have hb := B.bytes
  have hr := B.returns
  have hts := atoms_spec (ws := Cond.code yX12_add cX12_add 3 (some .int) :: pp_ws) B.pre
  have hpp := fun (w : Cond) (h : w ∈ pp_ws) => hts w (List.mem_cons_of_mem _ h)
  have hown : s.vm.findClass RX12 = some m.cls := findClass_of_methodNamed B.named
  have hlocks := B.notSynchronized
  have hw := pw_start (cy := cy) hsz hP hD0
  have hW := pq_start (as := [h0, q1, q8]) hw hC rfl
  have hl := lv_entry ([.ref h0, .int n1]) (n := 3) (Nat.le_of_ble_eq_true rfl)
  rw [lg_entry_eq]
  generalize (lg_sl ([.ref h0, .int n1]) ++ List.replicate (3 - (lg_sl ([.ref h0, .int n1])).length) Slot.unset).toArray = ls at hl ⊢
  have hl : lv_has ls 3 [(0, .ref h0), (1, .int n1)] := hl
  refine lv_aload_n hx hb dX12_add_0 rfl (lv_at hl 0 rfl) ?_
  refine lv_iload_n hx hb dX12_add_1 rfl (lv_at hl 1 rfl) ?_
  refine pq_xcallN hW [0, 1, 2] [] (by decide) rfl rfl (fun f9 hw9 hC9 => vx_runV (C := RX12) (As := [.int n1]) (rest := []) ⟨hx, hb, hml, hown, hts⟩ (c_X12_tongueAt l hst D cy sa _ L f9 h0 q1 q8 F_h0 F_q1 F_q8 n1 hC9 E_h0 E_q1 E_q8) (cwV 1 hts (pp_gV pp120 pp119 pp121 pp122 pp123) rfl rfl rfl pd_X12_tongueAt ⟨Nat.le_of_ble_eq_true rfl, Nat.le_of_ble_eq_true rfl⟩) (pq_xpreV hG hX hw9 hC9 (j := 0) rfl rfl) rfl rfl hl.1 rfl (lv_room (Nat.le_of_ble_eq_true rfl)) dX12_add_2 ⟨Nat.le_of_ble_eq_true rfl, Nat.le_of_ble_eq_true rfl⟩) (fun E9 ce q9 cs1 H locs hP hW hce hcv hcl => ?_)
  obtain ⟨rfl, hq, rfl⟩ := hP
  exact pq_out hno hlocks hce hcv hcl (hW.pick (cs2 := []) [] (by decide) rfl) ⟨rfl, trivial, rfl⟩ (Nat.le_of_ble_eq_true rfl) (Nat.le_of_ble_eq_true rfl)
set_option maxHeartbeats 4000000 in
set_option maxRecDepth 100000 in
/-- TongueHouse.ask on a new object -/
theorem c_X12_ask (l : Launch) (hst : l.stackTraces = false) (D : va_G) (cy : Nat → ClassId) (sa : Nat → Nat) (sz : Nat) (L : List Nat) (f : Nat → va_E) {q2 q4 q6 q15 q21 q23 q27 q39 q48 q61 q100 q114 q115 : Nat} (h0 q1 q8 : Nat) (F_h0 : List Value) (F_q1 : List Value) (F_q8 : List Value) (n1 : Int32) (hC : pq_C L f [(h0, .inr (12, F_h0)), (q1, .inr (8, F_q1)), (q8, .inr (4, F_q8))]) (E_h0 : pq_E 17 F_h0 [(0, .ref q1), (1, .ref q23), (2, .ref q27), (5, .ref q39), (6, .ref q48), (7, .ref q61), (10, .ref q100), (11, .ref q114), (12, .ref q115), (15, .int 0)]) (E_q1 : pq_E 21 F_q1 [(0, .ref q2), (1, .ref q4), (2, .ref q6), (3, .ref q8), (5, .int (-1)), (10, .ref q15), (13, .int 0), (17, .int 0), (18, .int 0), (19, .ref q21)]) (E_q8 : pq_E 2 F_q8 [(1, .int 0)]) : vx_Met l yX12_ask (Cond.code yX12_ask cX12_ask 4 (some .int) :: pp_ws) ({ frames := 7, cells := 1, slots := 6, locals := 121 }) (px_Pc D cy sa [.ref h0, .int n1] sz L f) (fun _ _ _ _ => False) (pq_T D sz L f [h0, q1, q8] (fun E9 cs1 => E9 = px_IAE ∧ (True) ∧ cs1 = [])) 1 6 (pw_A L f sz) := by
  refine vx_ofW (cc := cX12_ask) (maxL := 4) (ret := (some .int)) (by decide) rfl ?_
  intro p e s m args below meth c s₁ B hml hno hv
  obtain ⟨rfl, hsz, hG, hX, hP, hD0⟩ := hv
  have hx := B.exec
  have hb := B.bytes
  have hr := B.returns
  have hts := atoms_spec (ws := Cond.code yX12_ask cX12_ask 4 (some .int) :: pp_ws) B.pre
  have hpp := fun (w : Cond) (h : w ∈ pp_ws) => hts w (List.mem_cons_of_mem _ h)
  have hown : s.vm.findClass RX12 = some m.cls := findClass_of_methodNamed B.named
  have hlocks := B.notSynchronized
  have hw := pw_start (cy := cy) hsz hP hD0
  have hW := pq_start (as := [h0, q1, q8]) hw hC rfl
  have hl := lv_entry ([.ref h0, .int n1]) (n := 4) (Nat.le_of_ble_eq_true rfl)
  rw [lg_entry_eq]
  generalize (lg_sl ([.ref h0, .int n1]) ++ List.replicate (4 - (lg_sl ([.ref h0, .int n1])).length) Slot.unset).toArray = ls at hl ⊢
  have hl : lv_has ls 4 [(0, .ref h0), (1, .int n1)] := hl
  refine lv_aload_n hx hb dX12_ask_0 rfl (lv_at hl 0 rfl) ?_
  refine lv_iload_n hx hb dX12_ask_1 rfl (lv_at hl 1 rfl) ?_
  refine pq_xcallN hW [0, 1, 2] [] (by decide) rfl rfl (fun f9 hw9 hC9 => vx_runV (C := RX12) (As := [.int n1]) (rest := []) ⟨hx, hb, hml, hown, hts⟩ (c_X12_tongueAt l hst D cy sa _ L f9 h0 q1 q8 F_h0 F_q1 F_q8 n1 hC9 E_h0 E_q1 E_q8) (cwV 1 hts (pp_gV pp120 pp119 pp121 pp122 pp123) rfl rfl rfl pd_X12_tongueAt ⟨Nat.le_of_ble_eq_true rfl, Nat.le_of_ble_eq_true rfl⟩) (pq_xpreV hG hX hw9 hC9 (j := 0) rfl rfl) rfl rfl hl.1 rfl (lv_room (Nat.le_of_ble_eq_true rfl)) dX12_ask_2 ⟨Nat.le_of_ble_eq_true rfl, Nat.le_of_ble_eq_true rfl⟩) (fun E9 ce q9 cs1 H locs hP hW hce hcv hcl => ?_)
  obtain ⟨rfl, hq, rfl⟩ := hP
  exact pq_out hno hlocks hce hcv hcl (hW.pick (cs2 := []) [] (by decide) rfl) ⟨rfl, trivial, rfl⟩ (Nat.le_of_ble_eq_true rfl) (Nat.le_of_ble_eq_true rfl)
set_option maxHeartbeats 4000000 in
set_option maxRecDepth 100000 in
/-- TongueHouse.mend on a new object -/
theorem c_X12_mend (l : Launch) (hst : l.stackTraces = false) (D : va_G) (cy : Nat → ClassId) (sa : Nat → Nat) (sz : Nat) (L : List Nat) (f : Nat → va_E) {q2 q4 q6 q15 q21 q23 q27 q39 q48 q61 q100 q114 q115 : Nat} (h0 q1 q8 : Nat) (F_h0 : List Value) (F_q1 : List Value) (F_q8 : List Value) (n1 : Int32) (n2 : Int32) (hC : pq_C L f [(h0, .inr (12, F_h0)), (q1, .inr (8, F_q1)), (q8, .inr (4, F_q8))]) (E_h0 : pq_E 17 F_h0 [(0, .ref q1), (1, .ref q23), (2, .ref q27), (5, .ref q39), (6, .ref q48), (7, .ref q61), (10, .ref q100), (11, .ref q114), (12, .ref q115), (15, .int 0)]) (E_q1 : pq_E 21 F_q1 [(0, .ref q2), (1, .ref q4), (2, .ref q6), (3, .ref q8), (5, .int (-1)), (10, .ref q15), (13, .int 0), (17, .int 0), (18, .int 0), (19, .ref q21)]) (E_q8 : pq_E 2 F_q8 [(1, .int 0)]) : vx_Met l yX12_mend (Cond.code yX12_mend cX12_mend 10 (some .int) :: pp_ws) ({ frames := 7, cells := 1, slots := 6, locals := 121 }) (px_Pc D cy sa [.ref h0, .int n1, .int n2] sz L f) (fun _ _ _ _ => False) (pq_T D sz L f [h0, q1, q8] (fun E9 cs1 => E9 = px_IAE ∧ (True) ∧ cs1 = [])) 1 6 (pw_A L f sz) := by
  refine vx_ofW (cc := cX12_mend) (maxL := 10) (ret := (some .int)) (by decide) rfl ?_
  intro p e s m args below meth c s₁ B hml hno hv
  obtain ⟨rfl, hsz, hG, hX, hP, hD0⟩ := hv
  have hx := B.exec
  have hb := B.bytes
  have hr := B.returns
  have hts := atoms_spec (ws := Cond.code yX12_mend cX12_mend 10 (some .int) :: pp_ws) B.pre
  have hpp := fun (w : Cond) (h : w ∈ pp_ws) => hts w (List.mem_cons_of_mem _ h)
  have hown : s.vm.findClass RX12 = some m.cls := findClass_of_methodNamed B.named
  have hlocks := B.notSynchronized
  have hw := pw_start (cy := cy) hsz hP hD0
  have hW := pq_start (as := [h0, q1, q8]) hw hC rfl
  have hl := lv_entry ([.ref h0, .int n1, .int n2]) (n := 10) (Nat.le_of_ble_eq_true rfl)
  rw [lg_entry_eq]
  generalize (lg_sl ([.ref h0, .int n1, .int n2]) ++ List.replicate (10 - (lg_sl ([.ref h0, .int n1, .int n2])).length) Slot.unset).toArray = ls at hl ⊢
  have hl : lv_has ls 10 [(0, .ref h0), (1, .int n1), (2, .int n2)] := hl
  refine lv_aload_n hx hb dX12_mend_0 rfl (lv_at hl 0 rfl) ?_
  refine lv_iload_n hx hb dX12_mend_1 rfl (lv_at hl 1 rfl) ?_
  refine pq_xcallN hW [0, 1, 2] [] (by decide) rfl rfl (fun f9 hw9 hC9 => vx_runV (C := RX12) (As := [.int n1]) (rest := []) ⟨hx, hb, hml, hown, hts⟩ (c_X12_tongueAt l hst D cy sa _ L f9 h0 q1 q8 F_h0 F_q1 F_q8 n1 hC9 E_h0 E_q1 E_q8) (cwV 1 hts (pp_gV pp120 pp119 pp121 pp122 pp123) rfl rfl rfl pd_X12_tongueAt ⟨Nat.le_of_ble_eq_true rfl, Nat.le_of_ble_eq_true rfl⟩) (pq_xpreV hG hX hw9 hC9 (j := 0) rfl rfl) rfl rfl hl.1 rfl (lv_room (Nat.le_of_ble_eq_true rfl)) dX12_mend_2 ⟨Nat.le_of_ble_eq_true rfl, Nat.le_of_ble_eq_true rfl⟩) (fun E9 ce q9 cs1 H locs hP hW hce hcv hcl => ?_)
  obtain ⟨rfl, hq, rfl⟩ := hP
  exact pq_out hno hlocks hce hcv hcl (hW.pick (cs2 := []) [] (by decide) rfl) ⟨rfl, trivial, rfl⟩ (Nat.le_of_ble_eq_true rfl) (Nat.le_of_ble_eq_true rfl)
