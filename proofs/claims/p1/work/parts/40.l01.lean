set_option maxHeartbeats 4000000 in
set_option maxRecDepth 100000 in
/-- TongueHouseLaw.show on a new object -/
theorem c_L_show (l : Launch) (hst : l.stackTraces = false) (D : va_G) (cy : Nat → ClassId) (sa : Nat → Nat) (sz : Nat) (L : List Nat) (f : Nat → va_E) {q1 q23 q28 q39 q48 q61 q100 q114 : Nat} (h0 ou q27 q115 : Nat) (F_h0 : List Value) (g_ou : Nat → Int64) (F_q27 : List Value) (n2 : Int32) (hC : pq_C L f [(h0, .inr (12, F_h0)), (ou, .inl (cy 2, 1, .inr (.inl g_ou))), (q27, .inr (9, F_q27)), (q115, .inl (cy 1, 9, .inl (fun _ => 0)))]) (E_h0 : pq_E 17 F_h0 [(0, .ref q1), (1, .ref q23), (2, .ref q27), (5, .ref q39), (6, .ref q48), (7, .ref q61), (10, .ref q100), (11, .ref q114), (12, .ref q115), (15, .int 0)]) (E_q27 : pq_E 10 F_q27 [(0, .ref q28), (1, .int 0), (5, .int 0), (6, .int 0), (7, .int 0)]) : vx_Met l yL_show (Cond.codeWith yL_show cL_show 4 (some .int) [(0, 9, 12, 19)] :: pp_ws) ({ frames := 8, cells := 1, slots := 6, locals := 141 }) (px_Pc D cy sa [.ref h0, .int n2, .ref ou] sz L f) (pq_Qi D sz L f [h0, ou, q27, q115] (fun r cs1 => ∃ g1 : Nat → Int64, cs1 = [(ou, .inl (cy 2, 1, .inr (.inl g1)))] ∧ ((r = 1 ∧ (n2 < 0 ∨ 7 < n2)) ∨ (r = 0 ∧ ¬ (n2 < 0 ∨ 7 < n2) ∧ g1 0 = (-1))))) (pq_T D sz L f [h0, ou, q27, q115] (fun _ _ => False)) 1 6 (pw_A L f sz) := by
  refine vx_ofWH (cc := cL_show) (maxL := 4) (ret := (some .int)) (by decide) rfl ?_
  intro p e s m args below meth c s₁ B hml hv
  obtain ⟨rfl, hsz, hG, hX, hP, hD0⟩ := hv
  have hx := B.exec
  have hb := B.bytes
  have hr := B.returns
  have hts := atoms_spec (ws := Cond.codeWith yL_show cL_show 4 (some .int) [(0, 9, 12, 19)] :: pp_ws) B.pre
  have hpp := fun (w : Cond) (h : w ∈ pp_ws) => hts w (List.mem_cons_of_mem _ h)
  have hown : s.vm.findClass RL = some m.cls := findClass_of_methodNamed B.named
  have hlocks := B.notSynchronized
  have htab : tw_tab c [(0, 9, 12, 19)] := by
    obtain ⟨m', meth', c', h0', h1', h2', -, -, h5', -⟩ := Cond.codeWith_spec (hts (.codeWith yL_show cL_show 4 (some .int) [(0, 9, 12, 19)]) List.mem_cons_self)
    cases B.named.symm.trans h0'
    cases B.method.symm.trans h1'
    cases (Stand.of_body B).code.symm.trans h2'
    exact h5'
  have hw := pw_start (cy := cy) hsz hP hD0
  have hW := pq_start (as := [h0, ou, q27, q115]) hw hC rfl
  have hl := lv_entry ([.ref h0, .int n2, .ref ou]) (n := 4) (Nat.le_of_ble_eq_true rfl)
  rw [lg_entry_eq]
  generalize (lg_sl ([.ref h0, .int n2, .ref ou]) ++ List.replicate (4 - (lg_sl ([.ref h0, .int n2, .ref ou])).length) Slot.unset).toArray = ls at hl ⊢
  have hl : lv_has ls 4 [(0, .ref h0), (1, .int n2), (2, .ref ou)] := hl
  refine lv_aload_n hx hb dL_show_0 rfl (lv_at hl 2 rfl) ?_
  refine lv_iconst (v := 0) hx hb dL_show_1 (by decide) ?_
  refine lv_aload_n hx hb dL_show_2 rfl (lv_at hl 0 rfl) ?_
  refine lv_iload_n hx hb dL_show_3 rfl (lv_at hl 1 rfl) ?_
  refine pq_xcalli hW [0, 2, 3] [1] (by decide) rfl rfl (fun f9 hw9 hC9 => vx_runV (C := RX12) (As := [.int n2]) (rest := [.int 0, .ref ou]) ⟨hx, hb, hml, hown, hts⟩ (c_X12_show l hst D cy sa _ L f9 h0 q27 q115 F_h0 F_q27 n2 hC9 E_h0 E_q27) (cwV 1 hts (pp_gV pp247 pp246 pp248 pp249 pp123) rfl rfl rfl pd_X12_show ⟨Nat.le_of_ble_eq_true rfl, Nat.le_of_ble_eq_true rfl⟩) (pq_xpreV hG hX hw9 hC9 (j := 0) rfl rfl) rfl rfl hl.1 rfl (lv_room (Nat.le_of_ble_eq_true rfl)) dL_show_4 ⟨Nat.le_of_ble_eq_true rfl, Nat.le_of_ble_eq_true rfl⟩) (fun E9 ce q9 cs1 H locs hP hW hce hcv hcl => ?_) (fun r cs1 H locs hP hW => ?_)
  · obtain ⟨rfl, hq, rfl⟩ := hP
    refine vx_catch1 (C := px_IAE) (name := "java/lang/IllegalArgumentException") htab hown (by decide) (by decide) (hpp _ pp221) (va_Nw.use rfl hX.2.1.1) hce hcv hcl ?_
    have hW : pq_W D _ s.heap L f _ [(ou, .inl (cy 2, 1, .inr (.inl g_ou)))] H locs := hW
    refine lv_astore_n (lv' := [(3, .ref q9), (0, .ref h0), (1, .int n2), (2, .ref ou)]) hx hb dL_show_12 rfl hl (by decide) rfl (fun ls hl => ?_)
    refine lv_iconst (v := 1) hx hb dL_show_13 (by decide) ?_
    exact px_iret hx hb hr hlocks rfl hW ⟨_, rfl, Or.inl ⟨rfl, hq⟩⟩ (Nat.le_of_ble_eq_true rfl) (Nat.le_of_ble_eq_true rfl) dL_show_14
  · obtain ⟨rfl, hq, rfl⟩ := hP
    have hW : pq_W D _ s.heap L f _ [(ou, .inl (cy 2, 1, .inr (.inl g_ou)))] H locs := hW
    refine lv_i2l (v := (-1)) hx hb dL_show_7 (by decide) ?_
    refine pq_last hx hb hG hW 0 rfl (vp_in_iff.mpr ⟨by decide, by decide⟩) dL_show_8 (fun H locs hW => ?_)
    have hW : pq_W D _ s.heap L f _ [(ou, .inl (cy 2, 1, .inr (.inl _)))] H locs := hW
    refine lv_goto (tgt := 15) hx hb dL_show_9 (by decide) ?_
    refine lv_iconst (v := 0) hx hb dL_show_15 (by decide) ?_
    exact px_iret hx hb hr hlocks rfl hW ⟨_, rfl, Or.inr ⟨rfl, hq, rfl⟩⟩ (Nat.le_of_ble_eq_true rfl) (Nat.le_of_ble_eq_true rfl) dL_show_16
set_option maxHeartbeats 4000000 in
set_option maxRecDepth 100000 in
/-- TongueHouseLaw.same on a new object -/
theorem c_L_same (l : Launch) (hst : l.stackTraces = false) (D : va_G) (cy : Nat → ClassId) (sa : Nat → Nat) (sz : Nat) (L : List Nat) (f : Nat → va_E) {q1 q23 q27 q39 q48 q61 q100 q114 : Nat} (h0 ou q115 : Nat) (F_h0 : List Value) (g_ou : Nat → Int64) (n2 : Int32) (n3 : Int32) (hC : pq_C L f [(h0, .inr (12, F_h0)), (ou, .inl (cy 2, 1, .inr (.inl g_ou))), (q115, .inl (cy 1, 9, .inl (fun _ => 0)))]) (E_h0 : pq_E 17 F_h0 [(0, .ref q1), (1, .ref q23), (2, .ref q27), (5, .ref q39), (6, .ref q48), (7, .ref q61), (10, .ref q100), (11, .ref q114), (12, .ref q115), (15, .int 0)]) : vx_Met l yL_same (Cond.codeWith yL_same cL_same 5 (some .int) [(0, 17, 20, 19)] :: pp_ws) ({ frames := 8, cells := 2, slots := 12, locals := 143 }) (px_Pc D cy sa [.ref h0, .int n2, .int n3, .ref ou] sz L f) (pq_Qi D sz L f [h0, ou, q115] (fun r cs1 => ∃ g1 : Nat → Int64, cs1 = [(ou, .inl (cy 2, 1, .inr (.inl g1)))] ∧ ((r = 1 ∧ (n2 < 0 ∨ 7 < n2 ∨ n3 < 0 ∨ 7 < n3)) ∨ (r = 0 ∧ ¬ (n2 < 0 ∨ 7 < n2 ∨ n3 < 0 ∨ 7 < n3) ∧ g1 0 = 1)))) (pq_T D sz L f [h0, ou, q115] (fun _ _ => False)) 2 12 (pw_A L f sz) := by
  refine vx_ofWH (cc := cL_same) (maxL := 5) (ret := (some .int)) (by decide) rfl ?_
  intro p e s m args below meth c s₁ B hml hv
  obtain ⟨rfl, hsz, hG, hX, hP, hD0⟩ := hv
  have hx := B.exec
  have hb := B.bytes
  have hr := B.returns
  have hts := atoms_spec (ws := Cond.codeWith yL_same cL_same 5 (some .int) [(0, 17, 20, 19)] :: pp_ws) B.pre
  have hpp := fun (w : Cond) (h : w ∈ pp_ws) => hts w (List.mem_cons_of_mem _ h)
  have hown : s.vm.findClass RL = some m.cls := findClass_of_methodNamed B.named
  have hlocks := B.notSynchronized
  have htab : tw_tab c [(0, 17, 20, 19)] := by
    obtain ⟨m', meth', c', h0', h1', h2', -, -, h5', -⟩ := Cond.codeWith_spec (hts (.codeWith yL_same cL_same 5 (some .int) [(0, 17, 20, 19)]) List.mem_cons_self)
    cases B.named.symm.trans h0'
    cases B.method.symm.trans h1'
    cases (Stand.of_body B).code.symm.trans h2'
    exact h5'
  have hw := pw_start (cy := cy) hsz hP hD0
  have hW := pq_start (as := [h0, ou, q115]) hw hC rfl
  have hl := lv_entry ([.ref h0, .int n2, .int n3, .ref ou]) (n := 5) (Nat.le_of_ble_eq_true rfl)
  rw [lg_entry_eq]
  generalize (lg_sl ([.ref h0, .int n2, .int n3, .ref ou]) ++ List.replicate (5 - (lg_sl ([.ref h0, .int n2, .int n3, .ref ou])).length) Slot.unset).toArray = ls at hl ⊢
  have hl : lv_has ls 5 [(0, .ref h0), (1, .int n2), (2, .int n3), (3, .ref ou)] := hl
  refine lv_aload_n hx hb dL_same_0 rfl (lv_at hl 3 rfl) ?_
  refine lv_iconst (v := 0) hx hb dL_same_1 (by decide) ?_
  refine lv_aload_n hx hb dL_same_2 rfl (lv_at hl 0 rfl) ?_
  refine lv_iload_n hx hb dL_same_3 rfl (lv_at hl 1 rfl) ?_
  refine lv_iload_n hx hb dL_same_4 rfl (lv_at hl 2 rfl) ?_
  refine pq_xcalli hW [0, 2] [1] (by decide) rfl rfl (fun f9 hw9 hC9 => vx_runV (C := RX12) (As := [.int n2, .int n3]) (rest := [.int 0, .ref ou]) ⟨hx, hb, hml, hown, hts⟩ (c_X12_same l hst D cy sa _ L f9 h0 q115 F_h0 n2 n3 hC9 E_h0) (cwV 2 hts (pp_gV pp251 pp250 pp252 pp253 pp123) rfl rfl rfl pd_X12_same ⟨Nat.le_of_ble_eq_true rfl, Nat.le_of_ble_eq_true rfl⟩) (pq_xpreV hG hX hw9 hC9 (j := 0) rfl rfl) rfl rfl hl.1 rfl (lv_room (Nat.le_of_ble_eq_true rfl)) dL_same_5 ⟨Nat.le_of_ble_eq_true rfl, Nat.le_of_ble_eq_true rfl⟩) (fun E9 ce q9 cs1 H locs hP hW hce hcv hcl => ?_) (fun r cs1 H locs hP hW => ?_)
  · obtain ⟨rfl, hq, rfl⟩ := hP
    refine vx_catch1 (C := px_IAE) (name := "java/lang/IllegalArgumentException") htab hown (by decide) (by decide) (hpp _ pp221) (va_Nw.use rfl hX.2.1.1) hce hcv hcl ?_
    have hW : pq_W D _ s.heap L f _ [(ou, .inl (cy 2, 1, .inr (.inl g_ou)))] H locs := hW
    refine lv_astore (lv' := [(4, .ref q9), (0, .ref h0), (1, .int n2), (2, .int n3), (3, .ref ou)]) hx hb dL_same_20 hl (by decide) rfl (fun ls hl => ?_)
    refine lv_iconst (v := 1) hx hb dL_same_22 (by decide) ?_
    exact px_iret hx hb hr hlocks rfl hW ⟨_, rfl, Or.inl ⟨rfl, hq⟩⟩ (Nat.le_of_ble_eq_true rfl) (Nat.le_of_ble_eq_true rfl) dL_same_23
  · obtain ⟨rfl, hq, rfl⟩ := hP
    have hW : pq_W D _ s.heap L f _ [(ou, .inl (cy 2, 1, .inr (.inl g_ou)))] H locs := hW
    refine lv_if_eq (tgt := 15) hx hb dL_same_8 (by decide) (fun c9 => absurd c9 (by decide)) (fun _ => ?_)
    refine lv_lconst (v := 1) hx hb dL_same_11 (by decide) ?_
    refine lv_goto (tgt := 16) hx hb dL_same_12 (by decide) ?_
    refine pq_last hx hb hG hW 0 rfl (vp_in_iff.mpr ⟨by decide, by decide⟩) dL_same_16 (fun H locs hW => ?_)
    have hW : pq_W D _ s.heap L f _ [(ou, .inl (cy 2, 1, .inr (.inl _)))] H locs := hW
    refine lv_goto (tgt := 24) hx hb dL_same_17 (by decide) ?_
    refine lv_iconst (v := 0) hx hb dL_same_24 (by decide) ?_
    exact px_iret hx hb hr hlocks rfl hW ⟨_, rfl, Or.inr ⟨rfl, hq, rfl⟩⟩ (Nat.le_of_ble_eq_true rfl) (Nat.le_of_ble_eq_true rfl) dL_same_25
set_option maxHeartbeats 4000000 in
set_option maxRecDepth 100000 in
/-- TongueHouseLaw.mean on a new object -/
theorem c_L_mean (l : Launch) (hst : l.stackTraces = false) (D : va_G) (cy : Nat → ClassId) (sa : Nat → Nat) (sz : Nat) (L : List Nat) (f : Nat → va_E) {q1 q23 q28 q39 q48 q61 q100 q114 : Nat} (h0 ou q27 q115 : Nat) (F_h0 : List Value) (g_ou : Nat → Int64) (F_q27 : List Value) (n2 : Int32) (hC : pq_C L f [(h0, .inr (12, F_h0)), (ou, .inl (cy 2, 1, .inr (.inl g_ou))), (q27, .inr (9, F_q27)), (q115, .inl (cy 1, 9, .inl (fun _ => 0)))]) (E_h0 : pq_E 17 F_h0 [(0, .ref q1), (1, .ref q23), (2, .ref q27), (5, .ref q39), (6, .ref q48), (7, .ref q61), (10, .ref q100), (11, .ref q114), (12, .ref q115), (15, .int 0)]) (E_q27 : pq_E 10 F_q27 [(0, .ref q28), (1, .int 0), (5, .int 0), (6, .int 0), (7, .int 0)]) : vx_Met l yL_mean (Cond.codeWith yL_mean cL_mean 4 (some .int) [(0, 9, 12, 19)] :: pp_ws) ({ frames := 8, cells := 1, slots := 6, locals := 142 }) (px_Pc D cy sa [.ref h0, .int n2, .ref ou] sz L f) (pq_Qi D sz L f [h0, ou, q27, q115] (fun r cs1 => ∃ g1 : Nat → Int64, cs1 = [(ou, .inl (cy 2, 1, .inr (.inl g1)))] ∧ ((r = 1 ∧ (n2 < 0 ∨ 7 < n2)) ∨ (r = 0 ∧ ¬ (n2 < 0 ∨ 7 < n2) ∧ g1 0 = (-4))))) (pq_T D sz L f [h0, ou, q27, q115] (fun _ _ => False)) 1 6 (pw_A L f sz) := by
  refine vx_ofWH (cc := cL_mean) (maxL := 4) (ret := (some .int)) (by decide) rfl ?_
  intro p e s m args below meth c s₁ B hml hv
  obtain ⟨rfl, hsz, hG, hX, hP, hD0⟩ := hv
  have hx := B.exec
  have hb := B.bytes
  have hr := B.returns
  have hts := atoms_spec (ws := Cond.codeWith yL_mean cL_mean 4 (some .int) [(0, 9, 12, 19)] :: pp_ws) B.pre
  have hpp := fun (w : Cond) (h : w ∈ pp_ws) => hts w (List.mem_cons_of_mem _ h)
  have hown : s.vm.findClass RL = some m.cls := findClass_of_methodNamed B.named
  have hlocks := B.notSynchronized
  have htab : tw_tab c [(0, 9, 12, 19)] := by
    obtain ⟨m', meth', c', h0', h1', h2', -, -, h5', -⟩ := Cond.codeWith_spec (hts (.codeWith yL_mean cL_mean 4 (some .int) [(0, 9, 12, 19)]) List.mem_cons_self)
    cases B.named.symm.trans h0'
    cases B.method.symm.trans h1'
    cases (Stand.of_body B).code.symm.trans h2'
    exact h5'
  have hw := pw_start (cy := cy) hsz hP hD0
  have hW := pq_start (as := [h0, ou, q27, q115]) hw hC rfl
  have hl := lv_entry ([.ref h0, .int n2, .ref ou]) (n := 4) (Nat.le_of_ble_eq_true rfl)
  rw [lg_entry_eq]
  generalize (lg_sl ([.ref h0, .int n2, .ref ou]) ++ List.replicate (4 - (lg_sl ([.ref h0, .int n2, .ref ou])).length) Slot.unset).toArray = ls at hl ⊢
  have hl : lv_has ls 4 [(0, .ref h0), (1, .int n2), (2, .ref ou)] := hl
  refine lv_aload_n hx hb dL_mean_0 rfl (lv_at hl 2 rfl) ?_
  refine lv_iconst (v := 0) hx hb dL_mean_1 (by decide) ?_
  refine lv_aload_n hx hb dL_mean_2 rfl (lv_at hl 0 rfl) ?_
  refine lv_iload_n hx hb dL_mean_3 rfl (lv_at hl 1 rfl) ?_
  refine pq_xcalli hW [0, 2, 3] [1] (by decide) rfl rfl (fun f9 hw9 hC9 => vx_runV (C := RX12) (As := [.int n2]) (rest := [.int 0, .ref ou]) ⟨hx, hb, hml, hown, hts⟩ (c_X12_mean l hst D cy sa _ L f9 h0 q27 q115 F_h0 F_q27 n2 hC9 E_h0 E_q27) (cwV 1 hts (pp_gV pp255 pp254 pp256 pp257 pp123) rfl rfl rfl pd_X12_mean ⟨Nat.le_of_ble_eq_true rfl, Nat.le_of_ble_eq_true rfl⟩) (pq_xpreV hG hX hw9 hC9 (j := 0) rfl rfl) rfl rfl hl.1 rfl (lv_room (Nat.le_of_ble_eq_true rfl)) dL_mean_4 ⟨Nat.le_of_ble_eq_true rfl, Nat.le_of_ble_eq_true rfl⟩) (fun E9 ce q9 cs1 H locs hP hW hce hcv hcl => ?_) (fun r cs1 H locs hP hW => ?_)
  · obtain ⟨rfl, hq, rfl⟩ := hP
    refine vx_catch1 (C := px_IAE) (name := "java/lang/IllegalArgumentException") htab hown (by decide) (by decide) (hpp _ pp221) (va_Nw.use rfl hX.2.1.1) hce hcv hcl ?_
    have hW : pq_W D _ s.heap L f _ [(ou, .inl (cy 2, 1, .inr (.inl g_ou)))] H locs := hW
    refine lv_astore_n (lv' := [(3, .ref q9), (0, .ref h0), (1, .int n2), (2, .ref ou)]) hx hb dL_mean_12 rfl hl (by decide) rfl (fun ls hl => ?_)
    refine lv_iconst (v := 1) hx hb dL_mean_13 (by decide) ?_
    exact px_iret hx hb hr hlocks rfl hW ⟨_, rfl, Or.inl ⟨rfl, hq⟩⟩ (Nat.le_of_ble_eq_true rfl) (Nat.le_of_ble_eq_true rfl) dL_mean_14
  · obtain ⟨rfl, hq, rfl⟩ := hP
    have hW : pq_W D _ s.heap L f _ [(ou, .inl (cy 2, 1, .inr (.inl g_ou)))] H locs := hW
    refine lv_i2l (v := (-4)) hx hb dL_mean_7 (by decide) ?_
    refine pq_last hx hb hG hW 0 rfl (vp_in_iff.mpr ⟨by decide, by decide⟩) dL_mean_8 (fun H locs hW => ?_)
    have hW : pq_W D _ s.heap L f _ [(ou, .inl (cy 2, 1, .inr (.inl _)))] H locs := hW
    refine lv_goto (tgt := 15) hx hb dL_mean_9 (by decide) ?_
    refine lv_iconst (v := 0) hx hb dL_mean_15 (by decide) ?_
    exact px_iret hx hb hr hlocks rfl hW ⟨_, rfl, Or.inr ⟨rfl, hq, rfl⟩⟩ (Nat.le_of_ble_eq_true rfl) (Nat.le_of_ble_eq_true rfl) dL_mean_16
set_option maxHeartbeats 4000000 in
set_option maxRecDepth 100000 in
/-- TongueHouseLaw.truth on a new object -/
theorem c_L_truth (l : Launch) (hst : l.stackTraces = false) (D : va_G) (cy : Nat → ClassId) (sa : Nat → Nat) (sz : Nat) (L : List Nat) (f : Nat → va_E) {q1 q23 q27 q39 q48 q61 q100 q114 : Nat} (h0 ou q115 : Nat) (F_h0 : List Value) (g_ou : Nat → Int64) (n2 : Int32) (hC : pq_C L f [(h0, .inr (12, F_h0)), (ou, .inl (cy 2, 1, .inr (.inl g_ou))), (q115, .inl (cy 1, 9, .inl (fun _ => 0)))]) (E_h0 : pq_E 17 F_h0 [(0, .ref q1), (1, .ref q23), (2, .ref q27), (5, .ref q39), (6, .ref q48), (7, .ref q61), (10, .ref q100), (11, .ref q114), (12, .ref q115), (15, .int 0)]) : vx_Met l yL_truth (Cond.codeWith yL_truth cL_truth 4 (some .int) [(0, 9, 12, 19)] :: pp_ws) ({ frames := 8, cells := 1, slots := 6, locals := 142 }) (px_Pc D cy sa [.ref h0, .int n2, .ref ou] sz L f) (pq_Qi D sz L f [h0, ou, q115] (fun r cs1 => ∃ g1 : Nat → Int64, cs1 = [(ou, .inl (cy 2, 1, .inr (.inl g1)))] ∧ ((r = 1 ∧ (n2 < 0 ∨ 7 < n2)) ∨ (r = 0 ∧ ¬ (n2 < 0 ∨ 7 < n2) ∧ g1 0 = (-4))))) (pq_T D sz L f [h0, ou, q115] (fun _ _ => False)) 1 6 (pw_A L f sz) := by
  refine vx_ofWH (cc := cL_truth) (maxL := 4) (ret := (some .int)) (by decide) rfl ?_
  intro p e s m args below meth c s₁ B hml hv
  obtain ⟨rfl, hsz, hG, hX, hP, hD0⟩ := hv
  have hx := B.exec
  have hb := B.bytes
  have hr := B.returns
  have hts := atoms_spec (ws := Cond.codeWith yL_truth cL_truth 4 (some .int) [(0, 9, 12, 19)] :: pp_ws) B.pre
  have hpp := fun (w : Cond) (h : w ∈ pp_ws) => hts w (List.mem_cons_of_mem _ h)
  have hown : s.vm.findClass RL = some m.cls := findClass_of_methodNamed B.named
  have hlocks := B.notSynchronized
  have htab : tw_tab c [(0, 9, 12, 19)] := by
    obtain ⟨m', meth', c', h0', h1', h2', -, -, h5', -⟩ := Cond.codeWith_spec (hts (.codeWith yL_truth cL_truth 4 (some .int) [(0, 9, 12, 19)]) List.mem_cons_self)
    cases B.named.symm.trans h0'
    cases B.method.symm.trans h1'
    cases (Stand.of_body B).code.symm.trans h2'
    exact h5'
  have hw := pw_start (cy := cy) hsz hP hD0
  have hW := pq_start (as := [h0, ou, q115]) hw hC rfl
  have hl := lv_entry ([.ref h0, .int n2, .ref ou]) (n := 4) (Nat.le_of_ble_eq_true rfl)
  rw [lg_entry_eq]
  generalize (lg_sl ([.ref h0, .int n2, .ref ou]) ++ List.replicate (4 - (lg_sl ([.ref h0, .int n2, .ref ou])).length) Slot.unset).toArray = ls at hl ⊢
  have hl : lv_has ls 4 [(0, .ref h0), (1, .int n2), (2, .ref ou)] := hl
  refine lv_aload_n hx hb dL_truth_0 rfl (lv_at hl 2 rfl) ?_
  refine lv_iconst (v := 0) hx hb dL_truth_1 (by decide) ?_
  refine lv_aload_n hx hb dL_truth_2 rfl (lv_at hl 0 rfl) ?_
  refine lv_iload_n hx hb dL_truth_3 rfl (lv_at hl 1 rfl) ?_
  refine pq_xcalli hW [0, 2] [1] (by decide) rfl rfl (fun f9 hw9 hC9 => vx_runV (C := RX12) (As := [.int n2]) (rest := [.int 0, .ref ou]) ⟨hx, hb, hml, hown, hts⟩ (c_X12_truth l hst D cy sa _ L f9 h0 q115 F_h0 n2 hC9 E_h0) (cwV 1 hts (pp_gV pp259 pp258 pp260 pp261 pp123) rfl rfl rfl pd_X12_truth ⟨Nat.le_of_ble_eq_true rfl, Nat.le_of_ble_eq_true rfl⟩) (pq_xpreV hG hX hw9 hC9 (j := 0) rfl rfl) rfl rfl hl.1 rfl (lv_room (Nat.le_of_ble_eq_true rfl)) dL_truth_4 ⟨Nat.le_of_ble_eq_true rfl, Nat.le_of_ble_eq_true rfl⟩) (fun E9 ce q9 cs1 H locs hP hW hce hcv hcl => ?_) (fun r cs1 H locs hP hW => ?_)
  · obtain ⟨rfl, hq, rfl⟩ := hP
    refine vx_catch1 (C := px_IAE) (name := "java/lang/IllegalArgumentException") htab hown (by decide) (by decide) (hpp _ pp221) (va_Nw.use rfl hX.2.1.1) hce hcv hcl ?_
    have hW : pq_W D _ s.heap L f _ [(ou, .inl (cy 2, 1, .inr (.inl g_ou)))] H locs := hW
    refine lv_astore_n (lv' := [(3, .ref q9), (0, .ref h0), (1, .int n2), (2, .ref ou)]) hx hb dL_truth_12 rfl hl (by decide) rfl (fun ls hl => ?_)
    refine lv_iconst (v := 1) hx hb dL_truth_13 (by decide) ?_
    exact px_iret hx hb hr hlocks rfl hW ⟨_, rfl, Or.inl ⟨rfl, hq⟩⟩ (Nat.le_of_ble_eq_true rfl) (Nat.le_of_ble_eq_true rfl) dL_truth_14
  · obtain ⟨rfl, hq, rfl⟩ := hP
    have hW : pq_W D _ s.heap L f _ [(ou, .inl (cy 2, 1, .inr (.inl g_ou)))] H locs := hW
    refine lv_i2l (v := (-4)) hx hb dL_truth_7 (by decide) ?_
    refine pq_last hx hb hG hW 0 rfl (vp_in_iff.mpr ⟨by decide, by decide⟩) dL_truth_8 (fun H locs hW => ?_)
    have hW : pq_W D _ s.heap L f _ [(ou, .inl (cy 2, 1, .inr (.inl _)))] H locs := hW
    refine lv_goto (tgt := 15) hx hb dL_truth_9 (by decide) ?_
    refine lv_iconst (v := 0) hx hb dL_truth_15 (by decide) ?_
    exact px_iret hx hb hr hlocks rfl hW ⟨_, rfl, Or.inr ⟨rfl, hq, rfl⟩⟩ (Nat.le_of_ble_eq_true rfl) (Nat.le_of_ble_eq_true rfl) dL_truth_16
set_option maxHeartbeats 4000000 in
set_option maxRecDepth 100000 in
/-- TongueHouseLaw.count on a new object -/
theorem c_L_count (l : Launch) (hst : l.stackTraces = false) (D : va_G) (cy : Nat → ClassId) (sa : Nat → Nat) (sz : Nat) (L : List Nat) (f : Nat → va_E) {q15 q21 q23 q27 q39 q61 q114 q115 : Nat} (h0 ou q1 q8 q2 q4 q6 q48 q100 : Nat) (F_h0 : List Value) (g_ou : Nat → Int64) (F_q1 : List Value) (F_q8 : List Value) (F_q2 : List Value) (F_q4 : List Value) (F_q6 : List Value) (F_q48 : List Value) (F_q100 : List Value) (n2 : Int32) (n3 : Int32) (hC : pq_C L f [(h0, .inr (12, F_h0)), (ou, .inl (cy 2, 1, .inr (.inl g_ou))), (q1, .inr (8, F_q1)), (q8, .inr (4, F_q8)), (q2, .inr (4, F_q2)), (q4, .inr (4, F_q4)), (q6, .inr (4, F_q6)), (q48, .inr (0, F_q48)), (q100, .inr (1, F_q100))]) (E_h0 : pq_E 17 F_h0 [(0, .ref q1), (1, .ref q23), (2, .ref q27), (5, .ref q39), (6, .ref q48), (7, .ref q61), (10, .ref q100), (11, .ref q114), (12, .ref q115), (15, .int 0)]) (E_q1 : pq_E 21 F_q1 [(0, .ref q2), (1, .ref q4), (2, .ref q6), (3, .ref q8), (5, .int (-1)), (10, .ref q15), (13, .int 0), (17, .int 0), (18, .int 0), (19, .ref q21)]) (E_q8 : pq_E 2 F_q8 [(1, .int 0)]) (E_q2 : pq_E 2 F_q2 [(1, .int 0)]) (E_q4 : pq_E 2 F_q4 [(1, .int 0)]) (E_q6 : pq_E 2 F_q6 [(1, .int 0)]) (E_q48 : pq_E 22 F_q48 [(3, .int 0), (6, .int 0)]) (E_q100 : pq_E 19 F_q100 [(2, .int 0), (4, .int 0), (9, .int 0), (14, .int 0)]) : vx_Met l yL_count (Cond.codeWith yL_count cL_count 5 (some .int) [(0, 10, 13, 19)] :: pp_ws) ({ frames := 8, cells := 1, slots := 6, locals := 143 }) (px_Pc D cy sa [.ref h0, .int n2, .int n3, .ref ou] sz L f) (pq_Qi D sz L f [h0, ou, q1, q8, q2, q4, q6, q48, q100] (fun r cs1 => ∃ g1 : Nat → Int64, cs1 = [(ou, .inl (cy 2, 1, .inr (.inl g1)))] ∧ ((r = 1 ∧ (n3 < 0 ∨ 7 < n3)) ∨ (r = 0 ∧ ¬ (n3 < 0 ∨ 7 < n3) ∧ g1 0 = 0)))) (pq_T D sz L f [h0, ou, q1, q8, q2, q4, q6, q48, q100] (fun _ _ => False)) 1 6 (pw_A L f sz) := by
  refine vx_ofWH (cc := cL_count) (maxL := 5) (ret := (some .int)) (by decide) rfl ?_
  intro p e s m args below meth c s₁ B hml hv
  obtain ⟨rfl, hsz, hG, hX, hP, hD0⟩ := hv
  have hx := B.exec
  have hb := B.bytes
  have hr := B.returns
  have hts := atoms_spec (ws := Cond.codeWith yL_count cL_count 5 (some .int) [(0, 10, 13, 19)] :: pp_ws) B.pre
  have hpp := fun (w : Cond) (h : w ∈ pp_ws) => hts w (List.mem_cons_of_mem _ h)
  have hown : s.vm.findClass RL = some m.cls := findClass_of_methodNamed B.named
  have hlocks := B.notSynchronized
  have htab : tw_tab c [(0, 10, 13, 19)] := by
    obtain ⟨m', meth', c', h0', h1', h2', -, -, h5', -⟩ := Cond.codeWith_spec (hts (.codeWith yL_count cL_count 5 (some .int) [(0, 10, 13, 19)]) List.mem_cons_self)
    cases B.named.symm.trans h0'
    cases B.method.symm.trans h1'
    cases (Stand.of_body B).code.symm.trans h2'
    exact h5'
  have hw := pw_start (cy := cy) hsz hP hD0
  have hW := pq_start (as := [h0, ou, q1, q8, q2, q4, q6, q48, q100]) hw hC rfl
  have hl := lv_entry ([.ref h0, .int n2, .int n3, .ref ou]) (n := 5) (Nat.le_of_ble_eq_true rfl)
  rw [lg_entry_eq]
  generalize (lg_sl ([.ref h0, .int n2, .int n3, .ref ou]) ++ List.replicate (5 - (lg_sl ([.ref h0, .int n2, .int n3, .ref ou])).length) Slot.unset).toArray = ls at hl ⊢
  have hl : lv_has ls 5 [(0, .ref h0), (1, .int n2), (2, .int n3), (3, .ref ou)] := hl
  refine lv_aload_n hx hb dL_count_0 rfl (lv_at hl 3 rfl) ?_
  refine lv_iconst (v := 0) hx hb dL_count_1 (by decide) ?_
  refine lv_aload_n hx hb dL_count_2 rfl (lv_at hl 0 rfl) ?_
  refine lv_iload_n hx hb dL_count_3 rfl (lv_at hl 1 rfl) ?_
  refine lv_iload_n hx hb dL_count_4 rfl (lv_at hl 2 rfl) ?_
  refine pq_xcalli hW [0, 2, 3, 4, 5, 6, 7, 8] [1] (by decide) rfl rfl (fun f9 hw9 hC9 => vx_runV (C := RX12) (As := [.int n2, .int n3]) (rest := [.int 0, .ref ou]) ⟨hx, hb, hml, hown, hts⟩ (c_X12_count l hst D cy sa _ L f9 h0 q1 q8 q2 q4 q6 q48 q100 F_h0 F_q1 F_q8 F_q2 F_q4 F_q6 F_q48 F_q100 n2 n3 hC9 E_h0 E_q1 E_q8 E_q2 E_q4 E_q6 E_q48 E_q100) (cwV 2 hts (pp_gV pp263 pp262 pp264 pp265 pp123) rfl rfl rfl pd_X12_count ⟨Nat.le_of_ble_eq_true rfl, Nat.le_of_ble_eq_true rfl⟩) (pq_xpreV hG hX hw9 hC9 (j := 0) rfl rfl) rfl rfl hl.1 rfl (lv_room (Nat.le_of_ble_eq_true rfl)) dL_count_5 ⟨Nat.le_of_ble_eq_true rfl, Nat.le_of_ble_eq_true rfl⟩) (fun E9 ce q9 cs1 H locs hP hW hce hcv hcl => ?_) (fun r cs1 H locs hP hW => ?_)
  · obtain ⟨rfl, hq, rfl⟩ := hP
    refine vx_catch1 (C := px_IAE) (name := "java/lang/IllegalArgumentException") htab hown (by decide) (by decide) (hpp _ pp221) (va_Nw.use rfl hX.2.1.1) hce hcv hcl ?_
    have hW : pq_W D _ s.heap L f _ [(ou, .inl (cy 2, 1, .inr (.inl g_ou)))] H locs := hW
    refine lv_astore (lv' := [(4, .ref q9), (0, .ref h0), (1, .int n2), (2, .int n3), (3, .ref ou)]) hx hb dL_count_13 hl (by decide) rfl (fun ls hl => ?_)
    refine lv_iconst (v := 1) hx hb dL_count_15 (by decide) ?_
    exact px_iret hx hb hr hlocks rfl hW ⟨_, rfl, Or.inl ⟨rfl, hq⟩⟩ (Nat.le_of_ble_eq_true rfl) (Nat.le_of_ble_eq_true rfl) dL_count_16
  · obtain ⟨rfl, hq, rfl⟩ := hP
    have hW : pq_W D _ s.heap L f _ [(ou, .inl (cy 2, 1, .inr (.inl g_ou)))] H locs := hW
    refine lv_i2l (v := 0) hx hb dL_count_8 (by decide) ?_
    refine pq_last hx hb hG hW 0 rfl (vp_in_iff.mpr ⟨by decide, by decide⟩) dL_count_9 (fun H locs hW => ?_)
    have hW : pq_W D _ s.heap L f _ [(ou, .inl (cy 2, 1, .inr (.inl _)))] H locs := hW
    refine lv_goto (tgt := 17) hx hb dL_count_10 (by decide) ?_
    refine lv_iconst (v := 0) hx hb dL_count_17 (by decide) ?_
    exact px_iret hx hb hr hlocks rfl hW ⟨_, rfl, Or.inr ⟨rfl, hq, rfl⟩⟩ (Nat.le_of_ble_eq_true rfl) (Nat.le_of_ble_eq_true rfl) dL_count_18
set_option maxHeartbeats 4000000 in
set_option maxRecDepth 100000 in
/-- TongueHouseLaw.sounds on a new object -/
theorem c_L_sounds (l : Launch) (hst : l.stackTraces = false) (D : va_G) (cy : Nat → ClassId) (sa : Nat → Nat) (sz : Nat) (L : List Nat) (f : Nat → va_E) {q2 q4 q6 q15 q21 q23 q27 q39 q48 q61 q100 q114 q115 : Nat} (h0 ou q1 q8 : Nat) (F_h0 : List Value) (g_ou : Nat → Int64) (F_q1 : List Value) (F_q8 : List Value) (n2 : Int32) (hC : pq_C L f [(h0, .inr (12, F_h0)), (ou, .inl (cy 2, 1, .inr (.inl g_ou))), (q1, .inr (8, F_q1)), (q8, .inr (4, F_q8))]) (E_h0 : pq_E 17 F_h0 [(0, .ref q1), (1, .ref q23), (2, .ref q27), (5, .ref q39), (6, .ref q48), (7, .ref q61), (10, .ref q100), (11, .ref q114), (12, .ref q115), (15, .int 0)]) (E_q1 : pq_E 21 F_q1 [(0, .ref q2), (1, .ref q4), (2, .ref q6), (3, .ref q8), (5, .int (-1)), (10, .ref q15), (13, .int 0), (17, .int 0), (18, .int 0), (19, .ref q21)]) (E_q8 : pq_E 2 F_q8 [(1, .int 0)]) : vx_Met l yL_sounds (Cond.codeWith yL_sounds cL_sounds 4 (some .int) [(0, 9, 12, 19)] :: pp_ws) ({ frames := 8, cells := 1, slots := 6, locals := 144 }) (px_Pc D cy sa [.ref h0, .int n2, .ref ou] sz L f) (pq_Qi D sz L f [h0, ou, q1, q8] (fun r cs1 => ∃ g1 : Nat → Int64, cs1 = [(ou, .inl (cy 2, 1, .inr (.inl g1)))] ∧ ((r = 1 ∧ (True)) ∨ (r = 0 ∧ ¬ (True) ∧ g1 0 = 0)))) (pq_T D sz L f [h0, ou, q1, q8] (fun _ _ => False)) 1 6 (pw_A L f sz) := by
  refine vx_ofWH (cc := cL_sounds) (maxL := 4) (ret := (some .int)) (by decide) rfl ?_
  intro p e s m args below meth c s₁ B hml hv
  obtain ⟨rfl, hsz, hG, hX, hP, hD0⟩ := hv
  have hx := B.exec
  have hb := B.bytes
  have hr := B.returns
  have hts := atoms_spec (ws := Cond.codeWith yL_sounds cL_sounds 4 (some .int) [(0, 9, 12, 19)] :: pp_ws) B.pre
  have hpp := fun (w : Cond) (h : w ∈ pp_ws) => hts w (List.mem_cons_of_mem _ h)
  have hown : s.vm.findClass RL = some m.cls := findClass_of_methodNamed B.named
  have hlocks := B.notSynchronized
  have htab : tw_tab c [(0, 9, 12, 19)] := by
    obtain ⟨m', meth', c', h0', h1', h2', -, -, h5', -⟩ := Cond.codeWith_spec (hts (.codeWith yL_sounds cL_sounds 4 (some .int) [(0, 9, 12, 19)]) List.mem_cons_self)
    cases B.named.symm.trans h0'
    cases B.method.symm.trans h1'
    cases (Stand.of_body B).code.symm.trans h2'
    exact h5'
  have hw := pw_start (cy := cy) hsz hP hD0
  have hW := pq_start (as := [h0, ou, q1, q8]) hw hC rfl
  have hl := lv_entry ([.ref h0, .int n2, .ref ou]) (n := 4) (Nat.le_of_ble_eq_true rfl)
  rw [lg_entry_eq]
  generalize (lg_sl ([.ref h0, .int n2, .ref ou]) ++ List.replicate (4 - (lg_sl ([.ref h0, .int n2, .ref ou])).length) Slot.unset).toArray = ls at hl ⊢
  have hl : lv_has ls 4 [(0, .ref h0), (1, .int n2), (2, .ref ou)] := hl
  refine lv_aload_n hx hb dL_sounds_0 rfl (lv_at hl 2 rfl) ?_
  refine lv_iconst (v := 0) hx hb dL_sounds_1 (by decide) ?_
  refine lv_aload_n hx hb dL_sounds_2 rfl (lv_at hl 0 rfl) ?_
  refine lv_iload_n hx hb dL_sounds_3 rfl (lv_at hl 1 rfl) ?_
  refine pq_xcallN hW [0, 2, 3] [1] (by decide) rfl rfl (fun f9 hw9 hC9 => vx_runV (C := RX12) (As := [.int n2]) (rest := [.int 0, .ref ou]) ⟨hx, hb, hml, hown, hts⟩ (c_X12_sounds l hst D cy sa _ L f9 h0 q1 q8 F_h0 F_q1 F_q8 n2 hC9 E_h0 E_q1 E_q8) (cwV 1 hts (pp_gV pp267 pp266 pp268 pp269 pp123) rfl rfl rfl pd_X12_sounds ⟨Nat.le_of_ble_eq_true rfl, Nat.le_of_ble_eq_true rfl⟩) (pq_xpreV hG hX hw9 hC9 (j := 0) rfl rfl) rfl rfl hl.1 rfl (lv_room (Nat.le_of_ble_eq_true rfl)) dL_sounds_4 ⟨Nat.le_of_ble_eq_true rfl, Nat.le_of_ble_eq_true rfl⟩) (fun E9 ce q9 cs1 H locs hP hW hce hcv hcl => ?_)
  obtain ⟨rfl, hq, rfl⟩ := hP
  refine vx_catch1 (C := px_IAE) (name := "java/lang/IllegalArgumentException") htab hown (by decide) (by decide) (hpp _ pp221) (va_Nw.use rfl hX.2.1.1) hce hcv hcl ?_
  have hW : pq_W D _ s.heap L f _ [(ou, .inl (cy 2, 1, .inr (.inl g_ou)))] H locs := hW
  refine lv_astore_n (lv' := [(3, .ref q9), (0, .ref h0), (1, .int n2), (2, .ref ou)]) hx hb dL_sounds_12 rfl hl (by decide) rfl (fun ls hl => ?_)
  refine lv_iconst (v := 1) hx hb dL_sounds_13 (by decide) ?_
  exact px_iret hx hb hr hlocks rfl hW ⟨_, rfl, Or.inl ⟨rfl, hq⟩⟩ (Nat.le_of_ble_eq_true rfl) (Nat.le_of_ble_eq_true rfl) dL_sounds_14
set_option maxHeartbeats 4000000 in
set_option maxRecDepth 100000 in
/-- TongueHouseLaw.analyse on a new object -/
theorem c_L_analyse (l : Launch) (hst : l.stackTraces = false) (D : va_G) (cy : Nat → ClassId) (sa : Nat → Nat) (sz : Nat) (L : List Nat) (f : Nat → va_E) {q2 q4 q6 q15 q21 q23 q27 q39 q48 q61 q100 q114 q115 : Nat} (h0 ou q1 q8 : Nat) (F_h0 : List Value) (g_ou : Nat → Int64) (F_q1 : List Value) (F_q8 : List Value) (n2 : Int32) (hC : pq_C L f [(h0, .inr (12, F_h0)), (ou, .inl (cy 2, 1, .inr (.inl g_ou))), (q1, .inr (8, F_q1)), (q8, .inr (4, F_q8))]) (E_h0 : pq_E 17 F_h0 [(0, .ref q1), (1, .ref q23), (2, .ref q27), (5, .ref q39), (6, .ref q48), (7, .ref q61), (10, .ref q100), (11, .ref q114), (12, .ref q115), (15, .int 0)]) (E_q1 : pq_E 21 F_q1 [(0, .ref q2), (1, .ref q4), (2, .ref q6), (3, .ref q8), (5, .int (-1)), (10, .ref q15), (13, .int 0), (17, .int 0), (18, .int 0), (19, .ref q21)]) (E_q8 : pq_E 2 F_q8 [(1, .int 0)]) : vx_Met l yL_analyse (Cond.codeWith yL_analyse cL_analyse 4 (some .int) [(0, 9, 12, 19)] :: pp_ws) ({ frames := 8, cells := 1, slots := 6, locals := 144 }) (px_Pc D cy sa [.ref h0, .int n2, .ref ou] sz L f) (pq_Qi D sz L f [h0, ou, q1, q8] (fun r cs1 => ∃ g1 : Nat → Int64, cs1 = [(ou, .inl (cy 2, 1, .inr (.inl g1)))] ∧ ((r = 1 ∧ (True)) ∨ (r = 0 ∧ ¬ (True) ∧ g1 0 = 0)))) (pq_T D sz L f [h0, ou, q1, q8] (fun _ _ => False)) 1 6 (pw_A L f sz) := by
  refine vx_ofWH (cc := cL_analyse) (maxL := 4) (ret := (some .int)) (by decide) rfl ?_
  intro p e s m args below meth c s₁ B hml hv
  obtain ⟨rfl, hsz, hG, hX, hP, hD0⟩ := hv
  have hx := B.exec
  have hb := B.bytes
  have hr := B.returns
  have hts := atoms_spec (ws := Cond.codeWith yL_analyse cL_analyse 4 (some .int) [(0, 9, 12, 19)] :: pp_ws) B.pre
  have hpp := fun (w : Cond) (h : w ∈ pp_ws) => hts w (List.mem_cons_of_mem _ h)
  have hown : s.vm.findClass RL = some m.cls := findClass_of_methodNamed B.named
  have hlocks := B.notSynchronized
  have htab : tw_tab c [(0, 9, 12, 19)] := by
    obtain ⟨m', meth', c', h0', h1', h2', -, -, h5', -⟩ := Cond.codeWith_spec (hts (.codeWith yL_analyse cL_analyse 4 (some .int) [(0, 9, 12, 19)]) List.mem_cons_self)
    cases B.named.symm.trans h0'
    cases B.method.symm.trans h1'
    cases (Stand.of_body B).code.symm.trans h2'
    exact h5'
  have hw := pw_start (cy := cy) hsz hP hD0
  have hW := pq_start (as := [h0, ou, q1, q8]) hw hC rfl
  have hl := lv_entry ([.ref h0, .int n2, .ref ou]) (n := 4) (Nat.le_of_ble_eq_true rfl)
  rw [lg_entry_eq]
  generalize (lg_sl ([.ref h0, .int n2, .ref ou]) ++ List.replicate (4 - (lg_sl ([.ref h0, .int n2, .ref ou])).length) Slot.unset).toArray = ls at hl ⊢
  have hl : lv_has ls 4 [(0, .ref h0), (1, .int n2), (2, .ref ou)] := hl
  refine lv_aload_n hx hb dL_analyse_0 rfl (lv_at hl 2 rfl) ?_
  refine lv_iconst (v := 0) hx hb dL_analyse_1 (by decide) ?_
  refine lv_aload_n hx hb dL_analyse_2 rfl (lv_at hl 0 rfl) ?_
  refine lv_iload_n hx hb dL_analyse_3 rfl (lv_at hl 1 rfl) ?_
  refine pq_xcallN hW [0, 2, 3] [1] (by decide) rfl rfl (fun f9 hw9 hC9 => vx_runV (C := RX12) (As := [.int n2]) (rest := [.int 0, .ref ou]) ⟨hx, hb, hml, hown, hts⟩ (c_X12_analyse l hst D cy sa _ L f9 h0 q1 q8 F_h0 F_q1 F_q8 n2 hC9 E_h0 E_q1 E_q8) (cwV 1 hts (pp_gV pp271 pp270 pp272 pp273 pp123) rfl rfl rfl pd_X12_analyse ⟨Nat.le_of_ble_eq_true rfl, Nat.le_of_ble_eq_true rfl⟩) (pq_xpreV hG hX hw9 hC9 (j := 0) rfl rfl) rfl rfl hl.1 rfl (lv_room (Nat.le_of_ble_eq_true rfl)) dL_analyse_4 ⟨Nat.le_of_ble_eq_true rfl, Nat.le_of_ble_eq_true rfl⟩) (fun E9 ce q9 cs1 H locs hP hW hce hcv hcl => ?_)
  obtain ⟨rfl, hq, rfl⟩ := hP
  refine vx_catch1 (C := px_IAE) (name := "java/lang/IllegalArgumentException") htab hown (by decide) (by decide) (hpp _ pp221) (va_Nw.use rfl hX.2.1.1) hce hcv hcl ?_
  have hW : pq_W D _ s.heap L f _ [(ou, .inl (cy 2, 1, .inr (.inl g_ou)))] H locs := hW
  refine lv_astore_n (lv' := [(3, .ref q9), (0, .ref h0), (1, .int n2), (2, .ref ou)]) hx hb dL_analyse_12 rfl hl (by decide) rfl (fun ls hl => ?_)
  refine lv_iconst (v := 1) hx hb dL_analyse_13 (by decide) ?_
  exact px_iret hx hb hr hlocks rfl hW ⟨_, rfl, Or.inl ⟨rfl, hq⟩⟩ (Nat.le_of_ble_eq_true rfl) (Nat.le_of_ble_eq_true rfl) dL_analyse_14
set_option maxHeartbeats 4000000 in
set_option maxRecDepth 100000 in
/-- TongueHouseLaw.cell on a new object -/
theorem c_L_cell (l : Launch) (hst : l.stackTraces = false) (D : va_G) (cy : Nat → ClassId) (sa : Nat → Nat) (sz : Nat) (L : List Nat) (f : Nat → va_E) {q2 q4 q6 q15 q21 q23 q27 q39 q48 q61 q100 q114 q115 : Nat} (h0 ou q1 q8 : Nat) (F_h0 : List Value) (g_ou : Nat → Int64) (F_q1 : List Value) (F_q8 : List Value) (n2 : Int32) (n3 : Int32) (n4 : Int32) (hC : pq_C L f [(h0, .inr (12, F_h0)), (ou, .inl (cy 2, 1, .inr (.inl g_ou))), (q1, .inr (8, F_q1)), (q8, .inr (4, F_q8))]) (E_h0 : pq_E 17 F_h0 [(0, .ref q1), (1, .ref q23), (2, .ref q27), (5, .ref q39), (6, .ref q48), (7, .ref q61), (10, .ref q100), (11, .ref q114), (12, .ref q115), (15, .int 0)]) (E_q1 : pq_E 21 F_q1 [(0, .ref q2), (1, .ref q4), (2, .ref q6), (3, .ref q8), (5, .int (-1)), (10, .ref q15), (13, .int 0), (17, .int 0), (18, .int 0), (19, .ref q21)]) (E_q8 : pq_E 2 F_q8 [(1, .int 0)]) : vx_Met l yL_cell (Cond.codeWith yL_cell cL_cell 6 (some .int) [(0, 12, 15, 19)] :: pp_ws) ({ frames := 8, cells := 1, slots := 6, locals := 147 }) (px_Pc D cy sa [.ref h0, .int n2, .int n3, .int n4, .ref ou] sz L f) (pq_Qi D sz L f [h0, ou, q1, q8] (fun r cs1 => ∃ g1 : Nat → Int64, cs1 = [(ou, .inl (cy 2, 1, .inr (.inl g1)))] ∧ ((r = 1 ∧ (True)) ∨ (r = 0 ∧ ¬ (True) ∧ g1 0 = 0)))) (pq_T D sz L f [h0, ou, q1, q8] (fun _ _ => False)) 1 6 (pw_A L f sz) := by
  refine vx_ofWH (cc := cL_cell) (maxL := 6) (ret := (some .int)) (by decide) rfl ?_
  intro p e s m args below meth c s₁ B hml hv
  obtain ⟨rfl, hsz, hG, hX, hP, hD0⟩ := hv
  have hx := B.exec
  have hb := B.bytes
  have hr := B.returns
  have hts := atoms_spec (ws := Cond.codeWith yL_cell cL_cell 6 (some .int) [(0, 12, 15, 19)] :: pp_ws) B.pre
  have hpp := fun (w : Cond) (h : w ∈ pp_ws) => hts w (List.mem_cons_of_mem _ h)
  have hown : s.vm.findClass RL = some m.cls := findClass_of_methodNamed B.named
  have hlocks := B.notSynchronized
  have htab : tw_tab c [(0, 12, 15, 19)] := by
    obtain ⟨m', meth', c', h0', h1', h2', -, -, h5', -⟩ := Cond.codeWith_spec (hts (.codeWith yL_cell cL_cell 6 (some .int) [(0, 12, 15, 19)]) List.mem_cons_self)
    cases B.named.symm.trans h0'
    cases B.method.symm.trans h1'
    cases (Stand.of_body B).code.symm.trans h2'
    exact h5'
  have hw := pw_start (cy := cy) hsz hP hD0
  have hW := pq_start (as := [h0, ou, q1, q8]) hw hC rfl
  have hl := lv_entry ([.ref h0, .int n2, .int n3, .int n4, .ref ou]) (n := 6) (Nat.le_of_ble_eq_true rfl)
  rw [lg_entry_eq]
  generalize (lg_sl ([.ref h0, .int n2, .int n3, .int n4, .ref ou]) ++ List.replicate (6 - (lg_sl ([.ref h0, .int n2, .int n3, .int n4, .ref ou])).length) Slot.unset).toArray = ls at hl ⊢
  have hl : lv_has ls 6 [(0, .ref h0), (1, .int n2), (2, .int n3), (3, .int n4), (4, .ref ou)] := hl
  refine lv_aload hx hb dL_cell_0 (lv_at hl 4 rfl) ?_
  refine lv_iconst (v := 0) hx hb dL_cell_2 (by decide) ?_
  refine lv_aload_n hx hb dL_cell_3 rfl (lv_at hl 0 rfl) ?_
  refine lv_iload_n hx hb dL_cell_4 rfl (lv_at hl 1 rfl) ?_
  refine lv_iload_n hx hb dL_cell_5 rfl (lv_at hl 2 rfl) ?_
  refine lv_iload_n hx hb dL_cell_6 rfl (lv_at hl 3 rfl) ?_
  refine pq_xcallN hW [0, 2, 3] [1] (by decide) rfl rfl (fun f9 hw9 hC9 => vx_runV (C := RX12) (As := [.int n2, .int n3, .int n4]) (rest := [.int 0, .ref ou]) ⟨hx, hb, hml, hown, hts⟩ (c_X12_cell l hst D cy sa _ L f9 h0 q1 q8 F_h0 F_q1 F_q8 n2 n3 n4 hC9 E_h0 E_q1 E_q8) (cwV 3 hts (pp_gV pp275 pp274 pp276 pp277 pp123) rfl rfl rfl pd_X12_cell ⟨Nat.le_of_ble_eq_true rfl, Nat.le_of_ble_eq_true rfl⟩) (pq_xpreV hG hX hw9 hC9 (j := 0) rfl rfl) rfl rfl hl.1 rfl (lv_room (Nat.le_of_ble_eq_true rfl)) dL_cell_7 ⟨Nat.le_of_ble_eq_true rfl, Nat.le_of_ble_eq_true rfl⟩) (fun E9 ce q9 cs1 H locs hP hW hce hcv hcl => ?_)
  obtain ⟨rfl, hq, rfl⟩ := hP
  refine vx_catch1 (C := px_IAE) (name := "java/lang/IllegalArgumentException") htab hown (by decide) (by decide) (hpp _ pp221) (va_Nw.use rfl hX.2.1.1) hce hcv hcl ?_
  have hW : pq_W D _ s.heap L f _ [(ou, .inl (cy 2, 1, .inr (.inl g_ou)))] H locs := hW
  refine lv_astore (lv' := [(5, .ref q9), (0, .ref h0), (1, .int n2), (2, .int n3), (3, .int n4), (4, .ref ou)]) hx hb dL_cell_15 hl (by decide) rfl (fun ls hl => ?_)
  refine lv_iconst (v := 1) hx hb dL_cell_17 (by decide) ?_
  exact px_iret hx hb hr hlocks rfl hW ⟨_, rfl, Or.inl ⟨rfl, hq⟩⟩ (Nat.le_of_ble_eq_true rfl) (Nat.le_of_ble_eq_true rfl) dL_cell_18
