set_option maxHeartbeats 4000000 in
set_option maxRecDepth 100000 in
/-- TongueHouseModel.add on a new object -/
theorem c_X13_add (l : Launch) (D : va_G) (cy : Nat → ClassId) (sz : Nat) (L : List Nat) (f : Nat → va_E) {w10 w13 w14 w15 w16 w17 w18 w19 w56 w59 w115 : Nat} (m0 : Nat) (F_m0 : List Value) (n1 : Int32) (hC : pq_C L f [(m0, .inr (13, F_m0))]) (E_m0 : pq_E 229 F_m0 [(0, .int 0), (1, .int 0), (2, .int 0), (3, .int 0), (4, .int 0), (5, .int 0), (6, .int (-1)), (16, .ref w10), (19, .ref w13), (20, .ref w14), (21, .ref w15), (22, .ref w16), (23, .ref w17), (24, .ref w18), (25, .ref w19), (42, .int 0), (59, .int 0), (64, .int 0), (65, .ref w56), (68, .int 0), (69, .int 0), (70, .int 0), (71, .int 0), (72, .int 0), (73, .int 0), (74, .int 0), (75, .long 0), (76, .int 0), (79, .int 0), (97, .ref w59), (99, .int 0), (100, .int 0), (132, .int 0), (136, .int 0), (179, .int 0), (180, .int 0), (181, .long 0), (186, .int 0), (188, .int 0), (190, .ref w115), (201, .int 0), (206, .int 0), (211, .int 0)]) : Met l yX13_add (Cond.code yX13_add cX13_add 4 (some .int) :: pp_ws) ({ frames := 1, cells := 0, slots := 0, locals := 21 }) (pw_Pc D cy [.ref m0, .int n1] sz L f) (pq_Qi D sz L f [m0] (fun r cs1 => ∃ (G : List Value) (t : Int32), cs1 = [(m0, .inr (13, G))] ∧ pq_E 229 G [(0, .int t)] ∧ ((t = 1 ∧ (True)) ∨ (t = 0 ∧ ¬ (True) ∧ r = 0)))) 0 0 (pw_A L f sz) := by
  refine Met.ofW (cc := cX13_add) (maxL := 4) (ret := (some .int)) (by decide) rfl ?_
  intro p e s m args below meth c s₁ B hml hv
  obtain ⟨rfl, hsz, hG, hP, hD0⟩ := hv
  have hx := B.exec
  have hb := B.bytes
  have hr := B.returns
  have hts := atoms_spec (ws := Cond.code yX13_add cX13_add 4 (some .int) :: pp_ws) B.pre
  have hpp := fun (w : Cond) (h : w ∈ pp_ws) => hts w (List.mem_cons_of_mem _ h)
  have hown : s.vm.findClass RX13 = some m.cls := findClass_of_methodNamed B.named
  have hlocks := B.notSynchronized
  have hw := pw_start (cy := cy) hsz hP hD0
  have hW := pq_start (as := [m0]) hw hC rfl
  have hl := lv_entry ([.ref m0, .int n1]) (n := 4) (Nat.le_of_ble_eq_true rfl)
  rw [lg_entry_eq]
  generalize (lg_sl ([.ref m0, .int n1]) ++ List.replicate (4 - (lg_sl ([.ref m0, .int n1])).length) Slot.unset).toArray = ls at hl ⊢
  have hl : lv_has ls 4 [(0, .ref m0), (1, .int n1)] := hl
  refine lv_aload_n hx hb dX13_add_0 rfl (lv_at hl 0 rfl) ?_
  refine lv_iload_n hx hb dX13_add_1 rfl (lv_at hl 1 rfl) ?_
  refine pq_calli hW [0] [] (by decide) rfl rfl (fun f9 hw9 hC9 => va_runV (C := RX13) (As := [.int n1]) (rest := []) ⟨hx, hb, hml, hown, hts⟩ (c_X13_noTongue l D cy _ L f9 m0 F_m0 n1 hC9 E_m0) (cwV 1 hts (pp_gV pp210 pp209 pp211 pp212 pp20) rfl rfl rfl pd_X13_noTongue ⟨Nat.le_of_ble_eq_true rfl, Nat.le_of_ble_eq_true rfl⟩) (pq_preV hG hw9 hC9 (j := 0) rfl rfl) rfl rfl hl.1 rfl (lv_room (Nat.le_of_ble_eq_true rfl)) dX13_add_2 ⟨Nat.le_of_ble_eq_true rfl, Nat.le_of_ble_eq_true rfl⟩) (fun r cs1 H locs hP hW => ?_)
  obtain ⟨F_m0, rfl, rfl, E_m0⟩ := hP
  have hW : pq_W D _ s.heap L f _ [(m0, .inr (13, F_m0))] H locs := hW
  refine lv_if_eq (tgt := 10) hx hb dX13_add_5 (by decide) (fun c9 => absurd c9 (by decide)) (fun _ => ?_)
  refine lv_iconst (v := 0) hx hb dX13_add_8 (by decide) ?_
  exact pq_iret hx hb hr hlocks rfl hW ⟨F_m0, 1, rfl, E_m0.one (i := 0) rfl, Or.inl ⟨rfl, trivial⟩⟩ dX13_add_9
set_option maxHeartbeats 4000000 in
set_option maxRecDepth 100000 in
/-- TongueHouseModel.ask on a new object -/
theorem c_X13_ask (l : Launch) (D : va_G) (cy : Nat → ClassId) (sz : Nat) (L : List Nat) (f : Nat → va_E) {w10 w13 w14 w15 w16 w17 w18 w19 w56 w59 w115 : Nat} (m0 : Nat) (F_m0 : List Value) (n1 : Int32) (hC : pq_C L f [(m0, .inr (13, F_m0))]) (E_m0 : pq_E 229 F_m0 [(0, .int 0), (1, .int 0), (2, .int 0), (3, .int 0), (4, .int 0), (5, .int 0), (6, .int (-1)), (16, .ref w10), (19, .ref w13), (20, .ref w14), (21, .ref w15), (22, .ref w16), (23, .ref w17), (24, .ref w18), (25, .ref w19), (42, .int 0), (59, .int 0), (64, .int 0), (65, .ref w56), (68, .int 0), (69, .int 0), (70, .int 0), (71, .int 0), (72, .int 0), (73, .int 0), (74, .int 0), (75, .long 0), (76, .int 0), (79, .int 0), (97, .ref w59), (99, .int 0), (100, .int 0), (132, .int 0), (136, .int 0), (179, .int 0), (180, .int 0), (181, .long 0), (186, .int 0), (188, .int 0), (190, .ref w115), (201, .int 0), (206, .int 0), (211, .int 0)]) : Met l yX13_ask (Cond.code yX13_ask cX13_ask 7 (some .int) :: pp_ws) ({ frames := 1, cells := 0, slots := 0, locals := 21 }) (pw_Pc D cy [.ref m0, .int n1] sz L f) (pq_Qi D sz L f [m0] (fun r cs1 => ∃ (G : List Value) (t : Int32), cs1 = [(m0, .inr (13, G))] ∧ pq_E 229 G [(0, .int t)] ∧ ((t = 1 ∧ (True)) ∨ (t = 0 ∧ ¬ (True) ∧ r = 0)))) 0 0 (pw_A L f sz) := by
  refine Met.ofW (cc := cX13_ask) (maxL := 7) (ret := (some .int)) (by decide) rfl ?_
  intro p e s m args below meth c s₁ B hml hv
  obtain ⟨rfl, hsz, hG, hP, hD0⟩ := hv
  have hx := B.exec
  have hb := B.bytes
  have hr := B.returns
  have hts := atoms_spec (ws := Cond.code yX13_ask cX13_ask 7 (some .int) :: pp_ws) B.pre
  have hpp := fun (w : Cond) (h : w ∈ pp_ws) => hts w (List.mem_cons_of_mem _ h)
  have hown : s.vm.findClass RX13 = some m.cls := findClass_of_methodNamed B.named
  have hlocks := B.notSynchronized
  have hw := pw_start (cy := cy) hsz hP hD0
  have hW := pq_start (as := [m0]) hw hC rfl
  have hl := lv_entry ([.ref m0, .int n1]) (n := 7) (Nat.le_of_ble_eq_true rfl)
  rw [lg_entry_eq]
  generalize (lg_sl ([.ref m0, .int n1]) ++ List.replicate (7 - (lg_sl ([.ref m0, .int n1])).length) Slot.unset).toArray = ls at hl ⊢
  have hl : lv_has ls 7 [(0, .ref m0), (1, .int n1)] := hl
  refine lv_aload_n hx hb dX13_ask_0 rfl (lv_at hl 0 rfl) ?_
  refine lv_iload_n hx hb dX13_ask_1 rfl (lv_at hl 1 rfl) ?_
  refine pq_calli hW [0] [] (by decide) rfl rfl (fun f9 hw9 hC9 => va_runV (C := RX13) (As := [.int n1]) (rest := []) ⟨hx, hb, hml, hown, hts⟩ (c_X13_noTongue l D cy _ L f9 m0 F_m0 n1 hC9 E_m0) (cwV 1 hts (pp_gV pp210 pp209 pp211 pp212 pp20) rfl rfl rfl pd_X13_noTongue ⟨Nat.le_of_ble_eq_true rfl, Nat.le_of_ble_eq_true rfl⟩) (pq_preV hG hw9 hC9 (j := 0) rfl rfl) rfl rfl hl.1 rfl (lv_room (Nat.le_of_ble_eq_true rfl)) dX13_ask_2 ⟨Nat.le_of_ble_eq_true rfl, Nat.le_of_ble_eq_true rfl⟩) (fun r cs1 H locs hP hW => ?_)
  obtain ⟨F_m0, rfl, rfl, E_m0⟩ := hP
  have hW : pq_W D _ s.heap L f _ [(m0, .inr (13, F_m0))] H locs := hW
  refine lv_if_eq (tgt := 10) hx hb dX13_ask_5 (by decide) (fun c9 => absurd c9 (by decide)) (fun _ => ?_)
  refine lv_iconst (v := 0) hx hb dX13_ask_8 (by decide) ?_
  exact pq_iret hx hb hr hlocks rfl hW ⟨F_m0, 1, rfl, E_m0.one (i := 0) rfl, Or.inl ⟨rfl, trivial⟩⟩ dX13_ask_9
set_option maxHeartbeats 4000000 in
set_option maxRecDepth 100000 in
/-- TongueHouseModel.mend on a new object -/
theorem c_X13_mend (l : Launch) (D : va_G) (cy : Nat → ClassId) (sz : Nat) (L : List Nat) (f : Nat → va_E) {w10 w13 w14 w15 w16 w17 w18 w19 w56 w59 w115 : Nat} (m0 : Nat) (F_m0 : List Value) (n1 : Int32) (n2 : Int32) (hC : pq_C L f [(m0, .inr (13, F_m0))]) (E_m0 : pq_E 229 F_m0 [(0, .int 0), (1, .int 0), (2, .int 0), (3, .int 0), (4, .int 0), (5, .int 0), (6, .int (-1)), (16, .ref w10), (19, .ref w13), (20, .ref w14), (21, .ref w15), (22, .ref w16), (23, .ref w17), (24, .ref w18), (25, .ref w19), (42, .int 0), (59, .int 0), (64, .int 0), (65, .ref w56), (68, .int 0), (69, .int 0), (70, .int 0), (71, .int 0), (72, .int 0), (73, .int 0), (74, .int 0), (75, .long 0), (76, .int 0), (79, .int 0), (97, .ref w59), (99, .int 0), (100, .int 0), (132, .int 0), (136, .int 0), (179, .int 0), (180, .int 0), (181, .long 0), (186, .int 0), (188, .int 0), (190, .ref w115), (201, .int 0), (206, .int 0), (211, .int 0)]) : Met l yX13_mend (Cond.code yX13_mend cX13_mend 4 (some .int) :: pp_ws) ({ frames := 1, cells := 0, slots := 0, locals := 21 }) (pw_Pc D cy [.ref m0, .int n1, .int n2] sz L f) (pq_Qi D sz L f [m0] (fun r cs1 => ∃ (G : List Value) (t : Int32), cs1 = [(m0, .inr (13, G))] ∧ pq_E 229 G [(0, .int t)] ∧ ((t = 1 ∧ (True)) ∨ (t = 0 ∧ ¬ (True) ∧ r = 0)))) 0 0 (pw_A L f sz) := by
  refine Met.ofW (cc := cX13_mend) (maxL := 4) (ret := (some .int)) (by decide) rfl ?_
  intro p e s m args below meth c s₁ B hml hv
  obtain ⟨rfl, hsz, hG, hP, hD0⟩ := hv
  have hx := B.exec
  have hb := B.bytes
  have hr := B.returns
  have hts := atoms_spec (ws := Cond.code yX13_mend cX13_mend 4 (some .int) :: pp_ws) B.pre
  have hpp := fun (w : Cond) (h : w ∈ pp_ws) => hts w (List.mem_cons_of_mem _ h)
  have hown : s.vm.findClass RX13 = some m.cls := findClass_of_methodNamed B.named
  have hlocks := B.notSynchronized
  have hw := pw_start (cy := cy) hsz hP hD0
  have hW := pq_start (as := [m0]) hw hC rfl
  have hl := lv_entry ([.ref m0, .int n1, .int n2]) (n := 4) (Nat.le_of_ble_eq_true rfl)
  rw [lg_entry_eq]
  generalize (lg_sl ([.ref m0, .int n1, .int n2]) ++ List.replicate (4 - (lg_sl ([.ref m0, .int n1, .int n2])).length) Slot.unset).toArray = ls at hl ⊢
  have hl : lv_has ls 4 [(0, .ref m0), (1, .int n1), (2, .int n2)] := hl
  refine lv_aload_n hx hb dX13_mend_0 rfl (lv_at hl 0 rfl) ?_
  refine lv_iload_n hx hb dX13_mend_1 rfl (lv_at hl 1 rfl) ?_
  refine pq_calli hW [0] [] (by decide) rfl rfl (fun f9 hw9 hC9 => va_runV (C := RX13) (As := [.int n1]) (rest := []) ⟨hx, hb, hml, hown, hts⟩ (c_X13_noTongue l D cy _ L f9 m0 F_m0 n1 hC9 E_m0) (cwV 1 hts (pp_gV pp210 pp209 pp211 pp212 pp20) rfl rfl rfl pd_X13_noTongue ⟨Nat.le_of_ble_eq_true rfl, Nat.le_of_ble_eq_true rfl⟩) (pq_preV hG hw9 hC9 (j := 0) rfl rfl) rfl rfl hl.1 rfl (lv_room (Nat.le_of_ble_eq_true rfl)) dX13_mend_2 ⟨Nat.le_of_ble_eq_true rfl, Nat.le_of_ble_eq_true rfl⟩) (fun r cs1 H locs hP hW => ?_)
  obtain ⟨F_m0, rfl, rfl, E_m0⟩ := hP
  have hW : pq_W D _ s.heap L f _ [(m0, .inr (13, F_m0))] H locs := hW
  refine lv_if_ne (tgt := 16) hx hb dX13_mend_5 (by decide) (fun _ => ?_) (fun c9 => absurd c9 (by decide))
  refine lv_iconst (v := 0) hx hb dX13_mend_16 (by decide) ?_
  exact pq_iret hx hb hr hlocks rfl hW ⟨F_m0, 1, rfl, E_m0.one (i := 0) rfl, Or.inl ⟨rfl, trivial⟩⟩ dX13_mend_17
