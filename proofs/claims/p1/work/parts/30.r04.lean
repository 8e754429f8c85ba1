set_option maxHeartbeats 4000000 in
set_option maxRecDepth 100000 in
/-- TongueHouseModel.sounds on a new object -/
theorem c_X13_sounds (l : Launch) (D : va_G) (cy : Nat → ClassId) (sz : Nat) (L : List Nat) (f : Nat → va_E) {w10 w13 w14 w15 w16 w17 w18 w19 w56 w59 w115 : Nat} (m0 : Nat) (F_m0 : List Value) (n1 : Int32) (hC : pq_C L f [(m0, .inr (13, F_m0))]) (E_m0 : pq_E 229 F_m0 [(0, .int 0), (1, .int 0), (2, .int 0), (3, .int 0), (4, .int 0), (5, .int 0), (6, .int (-1)), (16, .ref w10), (19, .ref w13), (20, .ref w14), (21, .ref w15), (22, .ref w16), (23, .ref w17), (24, .ref w18), (25, .ref w19), (42, .int 0), (59, .int 0), (64, .int 0), (65, .ref w56), (68, .int 0), (69, .int 0), (70, .int 0), (71, .int 0), (72, .int 0), (73, .int 0), (74, .int 0), (75, .long 0), (76, .int 0), (79, .int 0), (97, .ref w59), (99, .int 0), (100, .int 0), (132, .int 0), (136, .int 0), (179, .int 0), (180, .int 0), (181, .long 0), (186, .int 0), (188, .int 0), (190, .ref w115), (201, .int 0), (206, .int 0), (211, .int 0)]) : Met l yX13_sounds (Cond.code yX13_sounds cX13_sounds 3 (some .int) :: pp_ws) ({ frames := 1, cells := 0, slots := 0, locals := 21 }) (pw_Pc D cy [.ref m0, .int n1] sz L f) (pq_Qi D sz L f [m0] (fun r cs1 => ∃ (G : List Value) (t : Int32), cs1 = [(m0, .inr (13, G))] ∧ pq_E 229 G [(0, .int t)] ∧ ((t = 1 ∧ (True)) ∨ (t = 0 ∧ ¬ (True) ∧ r = 0)))) 0 0 (pw_A L f sz) := by
  refine Met.ofW (cc := cX13_sounds) (maxL := 3) (ret := (some .int)) (by decide) rfl ?_
  intro p e s m args below meth c s₁ B hml hv
  obtain ⟨rfl, hsz, hG, hP, hD0⟩ := hv
  have hx := B.exec
  have hb := B.bytes
  have hr := B.returns
  have hts := atoms_spec (ws := Cond.code yX13_sounds cX13_sounds 3 (some .int) :: pp_ws) B.pre
  have hpp := fun (w : Cond) (h : w ∈ pp_ws) => hts w (List.mem_cons_of_mem _ h)
  have hown : s.vm.findClass RX13 = some m.cls := findClass_of_methodNamed B.named
  have hlocks := B.notSynchronized
  have hw := pw_start (cy := cy) hsz hP hD0
  have hW := pq_start (as := [m0]) hw hC rfl
  have hl := lv_entry ([.ref m0, .int n1]) (n := 3) (Nat.le_of_ble_eq_true rfl)
  rw [lg_entry_eq]
  generalize (lg_sl ([.ref m0, .int n1]) ++ List.replicate (3 - (lg_sl ([.ref m0, .int n1])).length) Slot.unset).toArray = ls at hl ⊢
  have hl : lv_has ls 3 [(0, .ref m0), (1, .int n1)] := hl
  refine lv_aload_n hx hb dX13_sounds_0 rfl (lv_at hl 0 rfl) ?_
  refine lv_iload_n hx hb dX13_sounds_1 rfl (lv_at hl 1 rfl) ?_
  refine pq_calli hW [0] [] (by decide) rfl rfl (fun f9 hw9 hC9 => va_runV (C := RX13) (As := [.int n1]) (rest := []) ⟨hx, hb, hml, hown, hts⟩ (c_X13_noTongue l D cy _ L f9 m0 F_m0 n1 hC9 E_m0) (cwV 1 hts (pp_gV pp210 pp209 pp211 pp212 pp20) rfl rfl rfl pd_X13_noTongue ⟨Nat.le_of_ble_eq_true rfl, Nat.le_of_ble_eq_true rfl⟩) (pq_preV hG hw9 hC9 (j := 0) rfl rfl) rfl rfl hl.1 rfl (lv_room (Nat.le_of_ble_eq_true rfl)) dX13_sounds_2 ⟨Nat.le_of_ble_eq_true rfl, Nat.le_of_ble_eq_true rfl⟩) (fun r cs1 H locs hP hW => ?_)
  obtain ⟨F_m0, rfl, rfl, E_m0⟩ := hP
  have hW : pq_W D _ s.heap L f _ [(m0, .inr (13, F_m0))] H locs := hW
  refine lv_if_eq (tgt := 10) hx hb dX13_sounds_5 (by decide) (fun c9 => absurd c9 (by decide)) (fun _ => ?_)
  refine lv_iconst (v := 0) hx hb dX13_sounds_8 (by decide) ?_
  exact pq_iret hx hb hr hlocks rfl hW ⟨F_m0, 1, rfl, E_m0.one (i := 0) rfl, Or.inl ⟨rfl, trivial⟩⟩ dX13_sounds_9
set_option maxHeartbeats 4000000 in
set_option maxRecDepth 100000 in
/-- TongueHouseModel.analyse on a new object -/
theorem c_X13_analyse (l : Launch) (D : va_G) (cy : Nat → ClassId) (sz : Nat) (L : List Nat) (f : Nat → va_E) {w10 w13 w14 w15 w16 w17 w18 w19 w56 w59 w115 : Nat} (m0 : Nat) (F_m0 : List Value) (n1 : Int32) (hC : pq_C L f [(m0, .inr (13, F_m0))]) (E_m0 : pq_E 229 F_m0 [(0, .int 0), (1, .int 0), (2, .int 0), (3, .int 0), (4, .int 0), (5, .int 0), (6, .int (-1)), (16, .ref w10), (19, .ref w13), (20, .ref w14), (21, .ref w15), (22, .ref w16), (23, .ref w17), (24, .ref w18), (25, .ref w19), (42, .int 0), (59, .int 0), (64, .int 0), (65, .ref w56), (68, .int 0), (69, .int 0), (70, .int 0), (71, .int 0), (72, .int 0), (73, .int 0), (74, .int 0), (75, .long 0), (76, .int 0), (79, .int 0), (97, .ref w59), (99, .int 0), (100, .int 0), (132, .int 0), (136, .int 0), (179, .int 0), (180, .int 0), (181, .long 0), (186, .int 0), (188, .int 0), (190, .ref w115), (201, .int 0), (206, .int 0), (211, .int 0)]) : Met l yX13_analyse (Cond.code yX13_analyse cX13_analyse 5 (some .int) :: pp_ws) ({ frames := 1, cells := 0, slots := 0, locals := 21 }) (pw_Pc D cy [.ref m0, .int n1] sz L f) (pq_Qi D sz L f [m0] (fun r cs1 => ∃ (G : List Value) (t : Int32), cs1 = [(m0, .inr (13, G))] ∧ pq_E 229 G [(0, .int t)] ∧ ((t = 1 ∧ (True)) ∨ (t = 0 ∧ ¬ (True) ∧ r = 0)))) 0 0 (pw_A L f sz) := by
  refine Met.ofW (cc := cX13_analyse) (maxL := 5) (ret := (some .int)) (by decide) rfl ?_
  intro p e s m args below meth c s₁ B hml hv
  obtain ⟨rfl, hsz, hG, hP, hD0⟩ := hv
  have hx := B.exec
  have hb := B.bytes
  have hr := B.returns
  have hts := atoms_spec (ws := Cond.code yX13_analyse cX13_analyse 5 (some .int) :: pp_ws) B.pre
  have hpp := fun (w : Cond) (h : w ∈ pp_ws) => hts w (List.mem_cons_of_mem _ h)
  have hown : s.vm.findClass RX13 = some m.cls := findClass_of_methodNamed B.named
  have hlocks := B.notSynchronized
  have hw := pw_start (cy := cy) hsz hP hD0
  have hW := pq_start (as := [m0]) hw hC rfl
  have hl := lv_entry ([.ref m0, .int n1]) (n := 5) (Nat.le_of_ble_eq_true rfl)
  rw [lg_entry_eq]
  generalize (lg_sl ([.ref m0, .int n1]) ++ List.replicate (5 - (lg_sl ([.ref m0, .int n1])).length) Slot.unset).toArray = ls at hl ⊢
  have hl : lv_has ls 5 [(0, .ref m0), (1, .int n1)] := hl
  refine lv_aload_n hx hb dX13_analyse_0 rfl (lv_at hl 0 rfl) ?_
  refine lv_iload_n hx hb dX13_analyse_1 rfl (lv_at hl 1 rfl) ?_
  refine pq_calli hW [0] [] (by decide) rfl rfl (fun f9 hw9 hC9 => va_runV (C := RX13) (As := [.int n1]) (rest := []) ⟨hx, hb, hml, hown, hts⟩ (c_X13_noTongue l D cy _ L f9 m0 F_m0 n1 hC9 E_m0) (cwV 1 hts (pp_gV pp210 pp209 pp211 pp212 pp20) rfl rfl rfl pd_X13_noTongue ⟨Nat.le_of_ble_eq_true rfl, Nat.le_of_ble_eq_true rfl⟩) (pq_preV hG hw9 hC9 (j := 0) rfl rfl) rfl rfl hl.1 rfl (lv_room (Nat.le_of_ble_eq_true rfl)) dX13_analyse_2 ⟨Nat.le_of_ble_eq_true rfl, Nat.le_of_ble_eq_true rfl⟩) (fun r cs1 H locs hP hW => ?_)
  obtain ⟨F_m0, rfl, rfl, E_m0⟩ := hP
  have hW : pq_W D _ s.heap L f _ [(m0, .inr (13, F_m0))] H locs := hW
  refine lv_if_eq (tgt := 10) hx hb dX13_analyse_5 (by decide) (fun c9 => absurd c9 (by decide)) (fun _ => ?_)
  refine lv_iconst (v := 0) hx hb dX13_analyse_8 (by decide) ?_
  exact pq_iret hx hb hr hlocks rfl hW ⟨F_m0, 1, rfl, E_m0.one (i := 0) rfl, Or.inl ⟨rfl, trivial⟩⟩ dX13_analyse_9
set_option maxHeartbeats 4000000 in
set_option maxRecDepth 100000 in
/-- TongueHouseModel.cell on a new object -/
theorem c_X13_cell (l : Launch) (D : va_G) (cy : Nat → ClassId) (sz : Nat) (L : List Nat) (f : Nat → va_E) {w10 w13 w14 w15 w16 w17 w18 w19 w56 w59 w115 : Nat} (m0 : Nat) (F_m0 : List Value) (n1 : Int32) (n2 : Int32) (n3 : Int32) (hC : pq_C L f [(m0, .inr (13, F_m0))]) (E_m0 : pq_E 229 F_m0 [(0, .int 0), (1, .int 0), (2, .int 0), (3, .int 0), (4, .int 0), (5, .int 0), (6, .int (-1)), (16, .ref w10), (19, .ref w13), (20, .ref w14), (21, .ref w15), (22, .ref w16), (23, .ref w17), (24, .ref w18), (25, .ref w19), (42, .int 0), (59, .int 0), (64, .int 0), (65, .ref w56), (68, .int 0), (69, .int 0), (70, .int 0), (71, .int 0), (72, .int 0), (73, .int 0), (74, .int 0), (75, .long 0), (76, .int 0), (79, .int 0), (97, .ref w59), (99, .int 0), (100, .int 0), (132, .int 0), (136, .int 0), (179, .int 0), (180, .int 0), (181, .long 0), (186, .int 0), (188, .int 0), (190, .ref w115), (201, .int 0), (206, .int 0), (211, .int 0)]) : Met l yX13_cell (Cond.code yX13_cell cX13_cell 5 (some .int) :: pp_ws) ({ frames := 1, cells := 0, slots := 0, locals := 21 }) (pw_Pc D cy [.ref m0, .int n1, .int n2, .int n3] sz L f) (pq_Qi D sz L f [m0] (fun r cs1 => ∃ (G : List Value) (t : Int32), cs1 = [(m0, .inr (13, G))] ∧ pq_E 229 G [(0, .int t)] ∧ ((t = 1 ∧ (True)) ∨ (t = 0 ∧ ¬ (True) ∧ r = 0)))) 0 0 (pw_A L f sz) := by
  refine Met.ofW (cc := cX13_cell) (maxL := 5) (ret := (some .int)) (by decide) rfl ?_
  intro p e s m args below meth c s₁ B hml hv
  obtain ⟨rfl, hsz, hG, hP, hD0⟩ := hv
  have hx := B.exec
  have hb := B.bytes
  have hr := B.returns
  have hts := atoms_spec (ws := Cond.code yX13_cell cX13_cell 5 (some .int) :: pp_ws) B.pre
  have hpp := fun (w : Cond) (h : w ∈ pp_ws) => hts w (List.mem_cons_of_mem _ h)
  have hown : s.vm.findClass RX13 = some m.cls := findClass_of_methodNamed B.named
  have hlocks := B.notSynchronized
  have hw := pw_start (cy := cy) hsz hP hD0
  have hW := pq_start (as := [m0]) hw hC rfl
  have hl := lv_entry ([.ref m0, .int n1, .int n2, .int n3]) (n := 5) (Nat.le_of_ble_eq_true rfl)
  rw [lg_entry_eq]
  generalize (lg_sl ([.ref m0, .int n1, .int n2, .int n3]) ++ List.replicate (5 - (lg_sl ([.ref m0, .int n1, .int n2, .int n3])).length) Slot.unset).toArray = ls at hl ⊢
  have hl : lv_has ls 5 [(0, .ref m0), (1, .int n1), (2, .int n2), (3, .int n3)] := hl
  refine lv_aload_n hx hb dX13_cell_0 rfl (lv_at hl 0 rfl) ?_
  refine lv_iload_n hx hb dX13_cell_1 rfl (lv_at hl 1 rfl) ?_
  refine pq_calli hW [0] [] (by decide) rfl rfl (fun f9 hw9 hC9 => va_runV (C := RX13) (As := [.int n1]) (rest := []) ⟨hx, hb, hml, hown, hts⟩ (c_X13_noTongue l D cy _ L f9 m0 F_m0 n1 hC9 E_m0) (cwV 1 hts (pp_gV pp210 pp209 pp211 pp212 pp20) rfl rfl rfl pd_X13_noTongue ⟨Nat.le_of_ble_eq_true rfl, Nat.le_of_ble_eq_true rfl⟩) (pq_preV hG hw9 hC9 (j := 0) rfl rfl) rfl rfl hl.1 rfl (lv_room (Nat.le_of_ble_eq_true rfl)) dX13_cell_2 ⟨Nat.le_of_ble_eq_true rfl, Nat.le_of_ble_eq_true rfl⟩) (fun r cs1 H locs hP hW => ?_)
  obtain ⟨F_m0, rfl, rfl, E_m0⟩ := hP
  have hW : pq_W D _ s.heap L f _ [(m0, .inr (13, F_m0))] H locs := hW
  refine lv_if_eq (tgt := 10) hx hb dX13_cell_5 (by decide) (fun c9 => absurd c9 (by decide)) (fun _ => ?_)
  refine lv_iconst (v := 0) hx hb dX13_cell_8 (by decide) ?_
  exact pq_iret hx hb hr hlocks rfl hW ⟨F_m0, 1, rfl, E_m0.one (i := 0) rfl, Or.inl ⟨rfl, trivial⟩⟩ dX13_cell_9
set_option maxHeartbeats 4000000 in
set_option maxRecDepth 100000 in
/-- TongueHouseModel.guess on a new object -/
theorem c_X13_guess (l : Launch) (D : va_G) (cy : Nat → ClassId) (sz : Nat) (L : List Nat) (f : Nat → va_E) {w10 w13 w14 w15 w16 w17 w18 w19 w56 w59 w115 : Nat} (m0 : Nat) (F_m0 : List Value) (n1 : Int32) (hC : pq_C L f [(m0, .inr (13, F_m0))]) (E_m0 : pq_E 229 F_m0 [(0, .int 0), (1, .int 0), (2, .int 0), (3, .int 0), (4, .int 0), (5, .int 0), (6, .int (-1)), (16, .ref w10), (19, .ref w13), (20, .ref w14), (21, .ref w15), (22, .ref w16), (23, .ref w17), (24, .ref w18), (25, .ref w19), (42, .int 0), (59, .int 0), (64, .int 0), (65, .ref w56), (68, .int 0), (69, .int 0), (70, .int 0), (71, .int 0), (72, .int 0), (73, .int 0), (74, .int 0), (75, .long 0), (76, .int 0), (79, .int 0), (97, .ref w59), (99, .int 0), (100, .int 0), (132, .int 0), (136, .int 0), (179, .int 0), (180, .int 0), (181, .long 0), (186, .int 0), (188, .int 0), (190, .ref w115), (201, .int 0), (206, .int 0), (211, .int 0)]) : Met l yX13_guess (Cond.code yX13_guess cX13_guess 8 (some .int) :: pp_ws) ({ frames := 1, cells := 0, slots := 0, locals := 21 }) (pw_Pc D cy [.ref m0, .int n1] sz L f) (pq_Qi D sz L f [m0] (fun r cs1 => ∃ (G : List Value) (t : Int32), cs1 = [(m0, .inr (13, G))] ∧ pq_E 229 G [(0, .int t)] ∧ ((t = 1 ∧ (True)) ∨ (t = 0 ∧ ¬ (True) ∧ r = 0)))) 0 0 (pw_A L f sz) := by
  refine Met.ofW (cc := cX13_guess) (maxL := 8) (ret := (some .int)) (by decide) rfl ?_
  intro p e s m args below meth c s₁ B hml hv
  obtain ⟨rfl, hsz, hG, hP, hD0⟩ := hv
  have hx := B.exec
  have hb := B.bytes
  have hr := B.returns
  have hts := atoms_spec (ws := Cond.code yX13_guess cX13_guess 8 (some .int) :: pp_ws) B.pre
  have hpp := fun (w : Cond) (h : w ∈ pp_ws) => hts w (List.mem_cons_of_mem _ h)
  have hown : s.vm.findClass RX13 = some m.cls := findClass_of_methodNamed B.named
  have hlocks := B.notSynchronized
  have hw := pw_start (cy := cy) hsz hP hD0
  have hW := pq_start (as := [m0]) hw hC rfl
  have hl := lv_entry ([.ref m0, .int n1]) (n := 8) (Nat.le_of_ble_eq_true rfl)
  rw [lg_entry_eq]
  generalize (lg_sl ([.ref m0, .int n1]) ++ List.replicate (8 - (lg_sl ([.ref m0, .int n1])).length) Slot.unset).toArray = ls at hl ⊢
  have hl : lv_has ls 8 [(0, .ref m0), (1, .int n1)] := hl
  refine lv_aload_n hx hb dX13_guess_0 rfl (lv_at hl 0 rfl) ?_
  refine lv_iload_n hx hb dX13_guess_1 rfl (lv_at hl 1 rfl) ?_
  refine pq_calli hW [0] [] (by decide) rfl rfl (fun f9 hw9 hC9 => va_runV (C := RX13) (As := [.int n1]) (rest := []) ⟨hx, hb, hml, hown, hts⟩ (c_X13_noTongue l D cy _ L f9 m0 F_m0 n1 hC9 E_m0) (cwV 1 hts (pp_gV pp210 pp209 pp211 pp212 pp20) rfl rfl rfl pd_X13_noTongue ⟨Nat.le_of_ble_eq_true rfl, Nat.le_of_ble_eq_true rfl⟩) (pq_preV hG hw9 hC9 (j := 0) rfl rfl) rfl rfl hl.1 rfl (lv_room (Nat.le_of_ble_eq_true rfl)) dX13_guess_2 ⟨Nat.le_of_ble_eq_true rfl, Nat.le_of_ble_eq_true rfl⟩) (fun r cs1 H locs hP hW => ?_)
  obtain ⟨F_m0, rfl, rfl, E_m0⟩ := hP
  have hW : pq_W D _ s.heap L f _ [(m0, .inr (13, F_m0))] H locs := hW
  refine lv_if_eq (tgt := 10) hx hb dX13_guess_5 (by decide) (fun c9 => absurd c9 (by decide)) (fun _ => ?_)
  refine lv_iconst (v := 0) hx hb dX13_guess_8 (by decide) ?_
  exact pq_iret hx hb hr hlocks rfl hW ⟨F_m0, 1, rfl, E_m0.one (i := 0) rfl, Or.inl ⟨rfl, trivial⟩⟩ dX13_guess_9
set_option maxHeartbeats 4000000 in
set_option maxRecDepth 100000 in
/-- TongueHouseModel.parse on a new object -/
theorem c_X13_parse (l : Launch) (D : va_G) (cy : Nat → ClassId) (sz : Nat) (L : List Nat) (f : Nat → va_E) {w10 w13 w14 w15 w16 w17 w18 w19 w56 w59 w115 : Nat} (m0 : Nat) (F_m0 : List Value) (n1 : Int32) (n2 : Int32) (hC : pq_C L f [(m0, .inr (13, F_m0))]) (E_m0 : pq_E 229 F_m0 [(0, .int 0), (1, .int 0), (2, .int 0), (3, .int 0), (4, .int 0), (5, .int 0), (6, .int (-1)), (16, .ref w10), (19, .ref w13), (20, .ref w14), (21, .ref w15), (22, .ref w16), (23, .ref w17), (24, .ref w18), (25, .ref w19), (42, .int 0), (59, .int 0), (64, .int 0), (65, .ref w56), (68, .int 0), (69, .int 0), (70, .int 0), (71, .int 0), (72, .int 0), (73, .int 0), (74, .int 0), (75, .long 0), (76, .int 0), (79, .int 0), (97, .ref w59), (99, .int 0), (100, .int 0), (132, .int 0), (136, .int 0), (179, .int 0), (180, .int 0), (181, .long 0), (186, .int 0), (188, .int 0), (190, .ref w115), (201, .int 0), (206, .int 0), (211, .int 0)]) : Met l yX13_parse (Cond.code yX13_parse cX13_parse 3 (some .int) :: pp_ws) ({ frames := 1, cells := 0, slots := 0, locals := 21 }) (pw_Pc D cy [.ref m0, .int n1, .int n2] sz L f) (pq_Qi D sz L f [m0] (fun r cs1 => ∃ (G : List Value) (t : Int32), cs1 = [(m0, .inr (13, G))] ∧ pq_E 229 G [(0, .int t)] ∧ ((t = 1 ∧ (True)) ∨ (t = 0 ∧ ¬ (True) ∧ r = 0)))) 0 0 (pw_A L f sz) := by
  refine Met.ofW (cc := cX13_parse) (maxL := 3) (ret := (some .int)) (by decide) rfl ?_
  intro p e s m args below meth c s₁ B hml hv
  obtain ⟨rfl, hsz, hG, hP, hD0⟩ := hv
  have hx := B.exec
  have hb := B.bytes
  have hr := B.returns
  have hts := atoms_spec (ws := Cond.code yX13_parse cX13_parse 3 (some .int) :: pp_ws) B.pre
  have hpp := fun (w : Cond) (h : w ∈ pp_ws) => hts w (List.mem_cons_of_mem _ h)
  have hown : s.vm.findClass RX13 = some m.cls := findClass_of_methodNamed B.named
  have hlocks := B.notSynchronized
  have hw := pw_start (cy := cy) hsz hP hD0
  have hW := pq_start (as := [m0]) hw hC rfl
  have hl := lv_entry ([.ref m0, .int n1, .int n2]) (n := 3) (Nat.le_of_ble_eq_true rfl)
  rw [lg_entry_eq]
  generalize (lg_sl ([.ref m0, .int n1, .int n2]) ++ List.replicate (3 - (lg_sl ([.ref m0, .int n1, .int n2])).length) Slot.unset).toArray = ls at hl ⊢
  have hl : lv_has ls 3 [(0, .ref m0), (1, .int n1), (2, .int n2)] := hl
  refine lv_aload_n hx hb dX13_parse_0 rfl (lv_at hl 0 rfl) ?_
  refine lv_iload_n hx hb dX13_parse_1 rfl (lv_at hl 1 rfl) ?_
  refine pq_calli hW [0] [] (by decide) rfl rfl (fun f9 hw9 hC9 => va_runV (C := RX13) (As := [.int n1]) (rest := []) ⟨hx, hb, hml, hown, hts⟩ (c_X13_noTongue l D cy _ L f9 m0 F_m0 n1 hC9 E_m0) (cwV 1 hts (pp_gV pp210 pp209 pp211 pp212 pp20) rfl rfl rfl pd_X13_noTongue ⟨Nat.le_of_ble_eq_true rfl, Nat.le_of_ble_eq_true rfl⟩) (pq_preV hG hw9 hC9 (j := 0) rfl rfl) rfl rfl hl.1 rfl (lv_room (Nat.le_of_ble_eq_true rfl)) dX13_parse_2 ⟨Nat.le_of_ble_eq_true rfl, Nat.le_of_ble_eq_true rfl⟩) (fun r cs1 H locs hP hW => ?_)
  obtain ⟨F_m0, rfl, rfl, E_m0⟩ := hP
  have hW : pq_W D _ s.heap L f _ [(m0, .inr (13, F_m0))] H locs := hW
  refine lv_if_ne (tgt := 16) hx hb dX13_parse_5 (by decide) (fun _ => ?_) (fun c9 => absurd c9 (by decide))
  refine lv_iconst (v := 0) hx hb dX13_parse_16 (by decide) ?_
  exact pq_iret hx hb hr hlocks rfl hW ⟨F_m0, 1, rfl, E_m0.one (i := 0) rfl, Or.inl ⟨rfl, trivial⟩⟩ dX13_parse_17
theorem pz_X13_bar_1 (n1 : Int32) (c1 : ¬ n1 < 0) (c2 : n1 < 0) : False := by
  have k0 : (0 : Int32).toInt = 0 := by decide
  simp only [Int32.lt_iff_toInt_lt, Int32.le_iff_toInt_le, ← Int32.toInt_inj] at c1 c2 ⊢
  omega
set_option maxHeartbeats 4000000 in
set_option maxRecDepth 100000 in
/-- TongueHouseModel.bar on a new object -/
theorem c_X13_bar (l : Launch) (D : va_G) (cy : Nat → ClassId) (sz : Nat) (L : List Nat) (f : Nat → va_E) {w10 w13 w14 w15 w16 w17 w18 w19 w56 w59 w115 : Nat} (m0 : Nat) (F_m0 : List Value) (n1 : Int32) (n2 : Int32) (hC : pq_C L f [(m0, .inr (13, F_m0))]) (E_m0 : pq_E 229 F_m0 [(0, .int 0), (1, .int 0), (2, .int 0), (3, .int 0), (4, .int 0), (5, .int 0), (6, .int (-1)), (16, .ref w10), (19, .ref w13), (20, .ref w14), (21, .ref w15), (22, .ref w16), (23, .ref w17), (24, .ref w18), (25, .ref w19), (42, .int 0), (59, .int 0), (64, .int 0), (65, .ref w56), (68, .int 0), (69, .int 0), (70, .int 0), (71, .int 0), (72, .int 0), (73, .int 0), (74, .int 0), (75, .long 0), (76, .int 0), (79, .int 0), (97, .ref w59), (99, .int 0), (100, .int 0), (132, .int 0), (136, .int 0), (179, .int 0), (180, .int 0), (181, .long 0), (186, .int 0), (188, .int 0), (190, .ref w115), (201, .int 0), (206, .int 0), (211, .int 0)]) : Met l yX13_bar (Cond.code yX13_bar cX13_bar 3 (some .long) :: pp_ws) ({ frames := 1, cells := 0, slots := 0, locals := 20 }) (pw_Pc D cy [.ref m0, .int n1, .int n2] sz L f) (pq_Ql D sz L f [m0] (fun r cs1 => ∃ (G : List Value) (t : Int32), cs1 = [(m0, .inr (13, G))] ∧ pq_E 229 G [(0, .int t)] ∧ ((t = 1 ∧ (True)) ∨ (t = 0 ∧ ¬ (True) ∧ r = 0)))) 0 0 (pw_A L f sz) := by
  refine Met.ofW (cc := cX13_bar) (maxL := 3) (ret := (some .long)) (by decide) rfl ?_
  intro p e s m args below meth c s₁ B hml hv
  obtain ⟨rfl, hsz, hG, hP, hD0⟩ := hv
  have hx := B.exec
  have hb := B.bytes
  have hr := B.returns
  have hts := atoms_spec (ws := Cond.code yX13_bar cX13_bar 3 (some .long) :: pp_ws) B.pre
  have hpp := fun (w : Cond) (h : w ∈ pp_ws) => hts w (List.mem_cons_of_mem _ h)
  have hown : s.vm.findClass RX13 = some m.cls := findClass_of_methodNamed B.named
  have hlocks := B.notSynchronized
  have hw := pw_start (cy := cy) hsz hP hD0
  have hW := pq_start (as := [m0]) hw hC rfl
  have hl := lv_entry ([.ref m0, .int n1, .int n2]) (n := 3) (Nat.le_of_ble_eq_true rfl)
  rw [lg_entry_eq]
  generalize (lg_sl ([.ref m0, .int n1, .int n2]) ++ List.replicate (3 - (lg_sl ([.ref m0, .int n1, .int n2])).length) Slot.unset).toArray = ls at hl ⊢
  have hl : lv_has ls 3 [(0, .ref m0), (1, .int n1), (2, .int n2)] := hl
  refine lv_aload_n hx hb dX13_bar_0 rfl (lv_at hl 0 rfl) ?_
  refine lv_iconst (v := 0) hx hb dX13_bar_1 (by decide) ?_
  refine pq_put (own := RX13) (ci := 13) (C := RX13) (T := TX13) (N := 229) (kv' := [(0, .int 0), (1, .int 0), (2, .int 0), (3, .int 0), (4, .int 0), (5, .int 0), (6, .int (-1)), (16, .ref w10), (19, .ref w13), (20, .ref w14), (21, .ref w15), (22, .ref w16), (23, .ref w17), (24, .ref w18), (25, .ref w19), (42, .int 0), (59, .int 0), (64, .int 0), (65, .ref w56), (68, .int 0), (69, .int 0), (70, .int 0), (71, .int 0), (72, .int 0), (73, .int 0), (74, .int 0), (75, .long 0), (76, .int 0), (79, .int 0), (97, .ref w59), (99, .int 0), (100, .int 0), (132, .int 0), (136, .int 0), (179, .int 0), (180, .int 0), (181, .long 0), (186, .int 0), (188, .int 0), (190, .ref w115), (201, .int 0), (206, .int 0), (211, .int 0)]) hx hb hpp pi13 tyX13 tyX13_ok nmX13 rfl hown hG hW 0 rfl E_m0 0 (by decide) rfl rfl rfl rfl pp13 dX13_bar_2 (fun F_m0 H locs hW E_m0 => ?_)
  have hW : pq_W D _ s.heap L f _ [(m0, .inr (13, F_m0))] H locs := hW
  refine lv_iload_n hx hb dX13_bar_5 rfl (lv_at hl 1 rfl) ?_
  refine lv_if_lt (tgt := 17) hx hb dX13_bar_6 (by decide) (fun c1 => ?_) (fun c1 => ?_)
  · refine lv_aload_n hx hb dX13_bar_17 rfl (lv_at hl 0 rfl) ?_
    refine pq_calli hW [0] [] (by decide) rfl rfl (fun f9 hw9 hC9 => va_runV (C := RX13) (As := []) (rest := []) ⟨hx, hb, hml, hown, hts⟩ (c_X13_bad l D cy _ L f9 m0 F_m0 hC9 E_m0) (cwV 0 hts (pp_gV pp24 pp23 pp25 pp26 pp20) rfl rfl rfl pd_X13_bad ⟨Nat.le_of_ble_eq_true rfl, Nat.le_of_ble_eq_true rfl⟩) (pq_preV hG hw9 hC9 (j := 0) rfl rfl) rfl rfl hl.1 rfl (lv_room (Nat.le_of_ble_eq_true rfl)) dX13_bar_18 ⟨Nat.le_of_ble_eq_true rfl, Nat.le_of_ble_eq_true rfl⟩) (fun r cs1 H locs hP hW => ?_)
    obtain ⟨F_m0, rfl, rfl, E_m0⟩ := hP
    have hW : pq_W D _ s.heap L f _ [(m0, .inr (13, F_m0))] H locs := hW
    refine lv_i2l (v := 0) hx hb dX13_bar_21 (by decide) ?_
    exact pq_lret hx hb hr hlocks hW ⟨F_m0, 1, rfl, E_m0.one (i := 0) rfl, Or.inl ⟨rfl, trivial⟩⟩ dX13_bar_22
  · refine lv_iload_n hx hb dX13_bar_9 rfl (lv_at hl 1 rfl) ?_
    refine lv_aload_n hx hb dX13_bar_10 rfl (lv_at hl 0 rfl) ?_
    refine pq_get (own := RX13) (ci := 13) (C := RX13) (T := TX13) (N := 229) (k := 3) (v := .int 0) hx hb hpp pi13 rfl hown hG hW 0 rfl E_m0 3 rfl (by decide) pp76 dX13_bar_11 ?_
    refine lv_icmp_lt (tgt := 23) hx hb dX13_bar_14 (by decide) (fun c2 => (pz_X13_bar_1 n1 c1 c2).elim) (fun _ => ?_)
    refine lv_aload_n hx hb dX13_bar_17 rfl (lv_at hl 0 rfl) ?_
    refine pq_calli hW [0] [] (by decide) rfl rfl (fun f9 hw9 hC9 => va_runV (C := RX13) (As := []) (rest := []) ⟨hx, hb, hml, hown, hts⟩ (c_X13_bad l D cy _ L f9 m0 F_m0 hC9 E_m0) (cwV 0 hts (pp_gV pp24 pp23 pp25 pp26 pp20) rfl rfl rfl pd_X13_bad ⟨Nat.le_of_ble_eq_true rfl, Nat.le_of_ble_eq_true rfl⟩) (pq_preV hG hw9 hC9 (j := 0) rfl rfl) rfl rfl hl.1 rfl (lv_room (Nat.le_of_ble_eq_true rfl)) dX13_bar_18 ⟨Nat.le_of_ble_eq_true rfl, Nat.le_of_ble_eq_true rfl⟩) (fun r cs1 H locs hP hW => ?_)
    obtain ⟨F_m0, rfl, rfl, E_m0⟩ := hP
    have hW : pq_W D _ s.heap L f _ [(m0, .inr (13, F_m0))] H locs := hW
    refine lv_i2l (v := 0) hx hb dX13_bar_21 (by decide) ?_
    exact pq_lret hx hb hr hlocks hW ⟨F_m0, 1, rfl, E_m0.one (i := 0) rfl, Or.inl ⟨rfl, trivial⟩⟩ dX13_bar_22
set_option maxHeartbeats 4000000 in
set_option maxRecDepth 100000 in
/-- TongueHouseModel.say on a new object -/
theorem c_X13_say (l : Launch) (D : va_G) (cy : Nat → ClassId) (sz : Nat) (L : List Nat) (f : Nat → va_E) {w10 w13 w14 w15 w16 w17 w18 w19 w56 w59 w115 : Nat} (m0 : Nat) (F_m0 : List Value) (n1 : Int32) (n2 : Int32) (n3 : Int32) (hC : pq_C L f [(m0, .inr (13, F_m0))]) (E_m0 : pq_E 229 F_m0 [(0, .int 0), (1, .int 0), (2, .int 0), (3, .int 0), (4, .int 0), (5, .int 0), (6, .int (-1)), (16, .ref w10), (19, .ref w13), (20, .ref w14), (21, .ref w15), (22, .ref w16), (23, .ref w17), (24, .ref w18), (25, .ref w19), (42, .int 0), (59, .int 0), (64, .int 0), (65, .ref w56), (68, .int 0), (69, .int 0), (70, .int 0), (71, .int 0), (72, .int 0), (73, .int 0), (74, .int 0), (75, .long 0), (76, .int 0), (79, .int 0), (97, .ref w59), (99, .int 0), (100, .int 0), (132, .int 0), (136, .int 0), (179, .int 0), (180, .int 0), (181, .long 0), (186, .int 0), (188, .int 0), (190, .ref w115), (201, .int 0), (206, .int 0), (211, .int 0)]) : Met l yX13_say (Cond.code yX13_say cX13_say 6 (some .int) :: pp_ws) ({ frames := 1, cells := 0, slots := 0, locals := 21 }) (pw_Pc D cy [.ref m0, .int n1, .int n2, .int n3] sz L f) (pq_Qi D sz L f [m0] (fun r cs1 => ∃ (G : List Value) (t : Int32), cs1 = [(m0, .inr (13, G))] ∧ pq_E 229 G [(0, .int t)] ∧ ((t = 1 ∧ (True)) ∨ (t = 0 ∧ ¬ (True) ∧ r = 0)))) 0 0 (pw_A L f sz) := by
  refine Met.ofW (cc := cX13_say) (maxL := 6) (ret := (some .int)) (by decide) rfl ?_
  intro p e s m args below meth c s₁ B hml hv
  obtain ⟨rfl, hsz, hG, hP, hD0⟩ := hv
  have hx := B.exec
  have hb := B.bytes
  have hr := B.returns
  have hts := atoms_spec (ws := Cond.code yX13_say cX13_say 6 (some .int) :: pp_ws) B.pre
  have hpp := fun (w : Cond) (h : w ∈ pp_ws) => hts w (List.mem_cons_of_mem _ h)
  have hown : s.vm.findClass RX13 = some m.cls := findClass_of_methodNamed B.named
  have hlocks := B.notSynchronized
  have hw := pw_start (cy := cy) hsz hP hD0
  have hW := pq_start (as := [m0]) hw hC rfl
  have hl := lv_entry ([.ref m0, .int n1, .int n2, .int n3]) (n := 6) (Nat.le_of_ble_eq_true rfl)
  rw [lg_entry_eq]
  generalize (lg_sl ([.ref m0, .int n1, .int n2, .int n3]) ++ List.replicate (6 - (lg_sl ([.ref m0, .int n1, .int n2, .int n3])).length) Slot.unset).toArray = ls at hl ⊢
  have hl : lv_has ls 6 [(0, .ref m0), (1, .int n1), (2, .int n2), (3, .int n3)] := hl
  refine lv_aload_n hx hb dX13_say_0 rfl (lv_at hl 0 rfl) ?_
  refine lv_iload_n hx hb dX13_say_1 rfl (lv_at hl 1 rfl) ?_
  refine pq_calli hW [0] [] (by decide) rfl rfl (fun f9 hw9 hC9 => va_runV (C := RX13) (As := [.int n1]) (rest := []) ⟨hx, hb, hml, hown, hts⟩ (c_X13_noTongue l D cy _ L f9 m0 F_m0 n1 hC9 E_m0) (cwV 1 hts (pp_gV pp210 pp209 pp211 pp212 pp20) rfl rfl rfl pd_X13_noTongue ⟨Nat.le_of_ble_eq_true rfl, Nat.le_of_ble_eq_true rfl⟩) (pq_preV hG hw9 hC9 (j := 0) rfl rfl) rfl rfl hl.1 rfl (lv_room (Nat.le_of_ble_eq_true rfl)) dX13_say_2 ⟨Nat.le_of_ble_eq_true rfl, Nat.le_of_ble_eq_true rfl⟩) (fun r cs1 H locs hP hW => ?_)
  obtain ⟨F_m0, rfl, rfl, E_m0⟩ := hP
  have hW : pq_W D _ s.heap L f _ [(m0, .inr (13, F_m0))] H locs := hW
  refine lv_if_ne (tgt := 16) hx hb dX13_say_5 (by decide) (fun _ => ?_) (fun c9 => absurd c9 (by decide))
  refine lv_iconst (v := 0) hx hb dX13_say_16 (by decide) ?_
  exact pq_iret hx hb hr hlocks rfl hW ⟨F_m0, 1, rfl, E_m0.one (i := 0) rfl, Or.inl ⟨rfl, trivial⟩⟩ dX13_say_17
set_option maxHeartbeats 4000000 in
set_option maxRecDepth 100000 in
/-- TongueHouseModel.swap on a new object -/
theorem c_X13_swap (l : Launch) (D : va_G) (cy : Nat → ClassId) (sz : Nat) (L : List Nat) (f : Nat → va_E) {w10 w13 w14 w15 w16 w17 w18 w19 w56 w59 w115 : Nat} (m0 : Nat) (F_m0 : List Value) (n1 : Int32) (n2 : Int32) (n3 : Int32) (hC : pq_C L f [(m0, .inr (13, F_m0))]) (E_m0 : pq_E 229 F_m0 [(0, .int 0), (1, .int 0), (2, .int 0), (3, .int 0), (4, .int 0), (5, .int 0), (6, .int (-1)), (16, .ref w10), (19, .ref w13), (20, .ref w14), (21, .ref w15), (22, .ref w16), (23, .ref w17), (24, .ref w18), (25, .ref w19), (42, .int 0), (59, .int 0), (64, .int 0), (65, .ref w56), (68, .int 0), (69, .int 0), (70, .int 0), (71, .int 0), (72, .int 0), (73, .int 0), (74, .int 0), (75, .long 0), (76, .int 0), (79, .int 0), (97, .ref w59), (99, .int 0), (100, .int 0), (132, .int 0), (136, .int 0), (179, .int 0), (180, .int 0), (181, .long 0), (186, .int 0), (188, .int 0), (190, .ref w115), (201, .int 0), (206, .int 0), (211, .int 0)]) : Met l yX13_swap (Cond.code yX13_swap cX13_swap 9 (some .int) :: pp_ws) ({ frames := 1, cells := 0, slots := 0, locals := 21 }) (pw_Pc D cy [.ref m0, .int n1, .int n2, .int n3] sz L f) (pq_Qi D sz L f [m0] (fun r cs1 => ∃ (G : List Value) (t : Int32), cs1 = [(m0, .inr (13, G))] ∧ pq_E 229 G [(0, .int t)] ∧ ((t = 1 ∧ (True)) ∨ (t = 0 ∧ ¬ (True) ∧ r = 0)))) 0 0 (pw_A L f sz) := by
  refine Met.ofW (cc := cX13_swap) (maxL := 9) (ret := (some .int)) (by decide) rfl ?_
  intro p e s m args below meth c s₁ B hml hv
  obtain ⟨rfl, hsz, hG, hP, hD0⟩ := hv
  have hx := B.exec
  have hb := B.bytes
  have hr := B.returns
  have hts := atoms_spec (ws := Cond.code yX13_swap cX13_swap 9 (some .int) :: pp_ws) B.pre
  have hpp := fun (w : Cond) (h : w ∈ pp_ws) => hts w (List.mem_cons_of_mem _ h)
  have hown : s.vm.findClass RX13 = some m.cls := findClass_of_methodNamed B.named
  have hlocks := B.notSynchronized
  have hw := pw_start (cy := cy) hsz hP hD0
  have hW := pq_start (as := [m0]) hw hC rfl
  have hl := lv_entry ([.ref m0, .int n1, .int n2, .int n3]) (n := 9) (Nat.le_of_ble_eq_true rfl)
  rw [lg_entry_eq]
  generalize (lg_sl ([.ref m0, .int n1, .int n2, .int n3]) ++ List.replicate (9 - (lg_sl ([.ref m0, .int n1, .int n2, .int n3])).length) Slot.unset).toArray = ls at hl ⊢
  have hl : lv_has ls 9 [(0, .ref m0), (1, .int n1), (2, .int n2), (3, .int n3)] := hl
  refine lv_aload_n hx hb dX13_swap_0 rfl (lv_at hl 0 rfl) ?_
  refine lv_iload_n hx hb dX13_swap_1 rfl (lv_at hl 1 rfl) ?_
  refine pq_calli hW [0] [] (by decide) rfl rfl (fun f9 hw9 hC9 => va_runV (C := RX13) (As := [.int n1]) (rest := []) ⟨hx, hb, hml, hown, hts⟩ (c_X13_noTongue l D cy _ L f9 m0 F_m0 n1 hC9 E_m0) (cwV 1 hts (pp_gV pp210 pp209 pp211 pp212 pp20) rfl rfl rfl pd_X13_noTongue ⟨Nat.le_of_ble_eq_true rfl, Nat.le_of_ble_eq_true rfl⟩) (pq_preV hG hw9 hC9 (j := 0) rfl rfl) rfl rfl hl.1 rfl (lv_room (Nat.le_of_ble_eq_true rfl)) dX13_swap_2 ⟨Nat.le_of_ble_eq_true rfl, Nat.le_of_ble_eq_true rfl⟩) (fun r cs1 H locs hP hW => ?_)
  obtain ⟨F_m0, rfl, rfl, E_m0⟩ := hP
  have hW : pq_W D _ s.heap L f _ [(m0, .inr (13, F_m0))] H locs := hW
  refine lv_if_ne (tgt := 24) hx hb dX13_swap_5 (by decide) (fun _ => ?_) (fun c9 => absurd c9 (by decide))
  refine lv_iconst (v := 0) hx hb dX13_swap_24 (by decide) ?_
  exact pq_iret hx hb hr hlocks rfl hW ⟨F_m0, 1, rfl, E_m0.one (i := 0) rfl, Or.inl ⟨rfl, trivial⟩⟩ dX13_swap_25
