theorem pz_X12_reading_1 (n2 : Int32) (hq : n2 < 0 ∨ 7 < n2) : n2 < 0 ∨ 7 < n2 := by
  have k0 : (0 : Int32).toInt = 0 := by decide
  have k7 : (7 : Int32).toInt = 7 := by decide
  simp only [Int32.lt_iff_toInt_lt, Int32.le_iff_toInt_le, ← Int32.toInt_inj] at hq ⊢
  omega
theorem pz_X12_reading_2 (n2 : Int32) (c1 : ¬ (n2 < 0 ∨ 7 < n2)) : ¬ (n2 < 0 ∨ 7 < n2) := by
  have k0 : (0 : Int32).toInt = 0 := by decide
  have k7 : (7 : Int32).toInt = 7 := by decide
  simp only [Int32.lt_iff_toInt_lt, Int32.le_iff_toInt_le, ← Int32.toInt_inj] at c1 ⊢
  omega
set_option maxHeartbeats 4000000 in
set_option maxRecDepth 100000 in
/-- TongueHouse.reading on a new object -/
theorem c_X12_reading (l : Launch) (hst : l.stackTraces = false) (D : va_G) (cy : Nat → ClassId) (sa : Nat → Nat) (sz : Nat) (L : List Nat) (f : Nat → va_E) {q1 q23 q27 q39 q48 q100 q115 : Nat} (h0 q114 q61 : Nat) (F_h0 : List Value) (F_q61 : List Value) (n1 : Int32) (n2 : Int32) (hC : pq_C L f [(h0, .inr (12, F_h0)), (q114, .inl (cy 7, 9, .inr (.inr (.inr (.inr (fun j => if j < 9 then some (q114 + 1 + j) else none)))))), (q61, .inr (5, F_q61))]) (E_h0 : pq_E 17 F_h0 [(0, .ref q1), (1, .ref q23), (2, .ref q27), (5, .ref q39), (6, .ref q48), (7, .ref q61), (10, .ref q100), (11, .ref q114), (12, .ref q115), (15, .int 0)]) (E_q61 : pq_E 19 F_q61 [(3, .int 0), (15, .int 0)]) : vx_Met l yX12_reading (Cond.code yX12_reading cX12_reading 4 (some .int) :: pp_ws) ({ frames := 7, cells := 1, slots := 6, locals := 120 }) (px_Pc D cy sa [.ref h0, .int n1, .int n2] sz L f) (pq_Qi D sz L f [h0, q114, q61] (fun r cs1 => r = (-1) ∧ ¬ (n2 < 0 ∨ 7 < n2) ∧ cs1 = [])) (pq_T D sz L f [h0, q114, q61] (fun E9 cs1 => E9 = px_IAE ∧ (n2 < 0 ∨ 7 < n2) ∧ cs1 = [])) 1 6 (pw_A L f sz) := by
  refine vx_ofW (cc := cX12_reading) (maxL := 4) (ret := (some .int)) (by decide) rfl ?_
  intro p e s m args below meth c s₁ B hml hno hv
  obtain ⟨rfl, hsz, hG, hX, hP, hD0⟩ := hv
  have hx := B.exec
  have hb := B.bytes
  have hr := B.returns
  have hts := atoms_spec (ws := Cond.code yX12_reading cX12_reading 4 (some .int) :: pp_ws) B.pre
  have hpp := fun (w : Cond) (h : w ∈ pp_ws) => hts w (List.mem_cons_of_mem _ h)
  have hown : s.vm.findClass RX12 = some m.cls := findClass_of_methodNamed B.named
  have hlocks := B.notSynchronized
  have hw := pw_start (cy := cy) hsz hP hD0
  have hW := pq_start (as := [h0, q114, q61]) hw hC rfl
  have hl := lv_entry ([.ref h0, .int n1, .int n2]) (n := 4) (Nat.le_of_ble_eq_true rfl)
  rw [lg_entry_eq]
  generalize (lg_sl ([.ref h0, .int n1, .int n2]) ++ List.replicate (4 - (lg_sl ([.ref h0, .int n1, .int n2])).length) Slot.unset).toArray = ls at hl ⊢
  have hl : lv_has ls 4 [(0, .ref h0), (1, .int n1), (2, .int n2)] := hl
  refine lv_iload_n hx hb dX12_reading_0 rfl (lv_at hl 2 rfl) ?_
  refine pq_xcallv hW [] [0, 1, 2] (by decide) rfl rfl (fun f9 hw9 hC9 => vx_runS (As := [.int n2]) (rest := []) ⟨hx, hb, hml, hown, hts⟩ (c_X12_checkPlace l hst D cy sa _ L f9 n2 hC9) (va_cwS 1 hts (pp_gS pp166 pp165 pp167 pp123) rfl rfl rfl pd_X12_checkPlace ⟨Nat.le_of_ble_eq_true rfl, Nat.le_of_ble_eq_true rfl⟩) (pq_xpreS hG hX hw9) rfl rfl hl.1 rfl (lv_room (Nat.le_of_ble_eq_true rfl)) dX12_reading_1 ⟨Nat.le_of_ble_eq_true rfl, Nat.le_of_ble_eq_true rfl⟩) (fun E9 ce q9 cs1 H locs hP hW hce hcv hcl => ?_) (fun cs1 H locs hP hW => ?_)
  · obtain ⟨rfl, hq, rfl⟩ := hP
    exact pq_out hno hlocks hce hcv hcl (hW.pick (cs2 := []) [] (by decide) rfl) ⟨rfl, (pz_X12_reading_1 n2 hq), rfl⟩ (Nat.le_of_ble_eq_true rfl) (Nat.le_of_ble_eq_true rfl)
  · obtain ⟨c1, rfl⟩ := hP
    have hW : pq_W D _ s.heap L f _ [(h0, .inr (12, F_h0)), (q114, .inl (cy 7, 9, .inr (.inr (.inr (.inr (fun j => if j < 9 then some (q114 + 1 + j) else none)))))), (q61, .inr (5, F_q61))] H locs := hW
    refine lv_aload_n hx hb dX12_reading_4 rfl (lv_at hl 0 rfl) ?_
    refine pq_get (own := RX12) (ci := 12) (C := RX12) (T := TX12) (N := 17) (k := 7) (v := .ref q61) hx hb hpp pi12 rfl hown hG hW 0 rfl E_h0 5 rfl (by decide) pp145 dX12_reading_5 ?_
    refine lv_iload_n hx hb dX12_reading_8 rfl (lv_at hl 1 rfl) ?_
    refine lv_aload_n hx hb dX12_reading_9 rfl (lv_at hl 0 rfl) ?_
    refine pq_get (own := RX12) (ci := 12) (C := RX12) (T := TX12) (N := 17) (k := 11) (v := .ref q114) hx hb hpp pi12 rfl hown hG hW 0 rfl E_h0 7 rfl (by decide) pp168 dX12_reading_10 ?_
    refine lv_bipush (v := 8) hx hb dX12_reading_13 (by decide) ?_
    refine pq_aaldI (v := (q114 + 1 + 8)) hx hb hG hW 1 rfl (vp_in_iff.mpr ⟨by decide, by decide⟩) rfl dX12_reading_15 ?_
    refine pq_calli hW [2] [0, 1] (by decide) rfl rfl (fun f9 hw9 hC9 => va_runV (C := RX5) (As := [.int n1, .ref (q114 + 1 + 8)]) (rest := []) ⟨hx, hb, hml, hown, hts⟩ (c_X5_spell l D cy _ L f9 q61 F_q61 n1 (q114 + 1 + 8) hC9 E_q61) (cwV 2 hts (pp_gV pp170 pp169 pp171 pp172 pp151) rfl rfl rfl pd_X5_spell ⟨Nat.le_of_ble_eq_true rfl, Nat.le_of_ble_eq_true rfl⟩) (pq_preV hG hw9 hC9 (j := 0) rfl rfl) rfl rfl hl.1 rfl (lv_room (Nat.le_of_ble_eq_true rfl)) dX12_reading_16 ⟨Nat.le_of_ble_eq_true rfl, Nat.le_of_ble_eq_true rfl⟩) (fun r cs1 H locs hP hW => ?_)
    obtain ⟨rfl, rfl⟩ := hP
    have hW : pq_W D _ s.heap L f _ [(q61, .inr (5, F_q61)), (h0, .inr (12, F_h0)), (q114, .inl (cy 7, 9, .inr (.inr (.inr (.inr (fun j => if j < 9 then some (q114 + 1 + j) else none))))))] H locs := hW
    refine lv_istore_n (lv' := [(3, .int (-1)), (0, .ref h0), (1, .int n1), (2, .int n2)]) hx hb dX12_reading_19 rfl hl (by decide) rfl (fun ls hl => ?_)
    refine lv_iload_n hx hb dX12_reading_20 rfl (lv_at hl 0 rfl) ?_
    refine lv_if_le (tgt := 50) hx hb dX12_reading_21 (by decide) (fun _ => ?_) (fun c9 => absurd c9 (by decide))
    refine lv_iload_n hx hb dX12_reading_50 rfl (lv_at hl 0 rfl) ?_
    exact px_iret hx hb hr hlocks rfl (hW.pick (cs2 := []) [] (by decide) rfl) ⟨rfl, (pz_X12_reading_2 n2 c1), rfl⟩ (Nat.le_of_ble_eq_true rfl) (Nat.le_of_ble_eq_true rfl) dX12_reading_51
set_option maxHeartbeats 4000000 in
set_option maxRecDepth 100000 in
/-- TongueHouse$Reader.readTree on a new object -/
theorem c_X6_readTree (l : Launch) (D : va_G) (cy : Nat → ClassId) (sz : Nat) (L : List Nat) (f : Nat → va_E) {q1 q24 : Nat} (q39 q23 : Nat) (F_q39 : List Value) (F_q23 : List Value) (p1 : Nat) (hC : pq_C L f [(q39, .inr (6, F_q39)), (q23, .inr (9, F_q23))]) (E_q39 : pq_E 19 F_q39 [(0, .ref q1), (1, .ref q23), (3, .int 0)]) (E_q23 : pq_E 10 F_q23 [(0, .ref q24), (1, .int 0), (5, .int 0), (6, .int 0), (7, .int 0)]) : Met l yX6_readTree (Cond.code yX6_readTree cX6_readTree 5 (some .int) :: pp_ws) ({ frames := 2, cells := 0, slots := 0, locals := 42 }) (pw_Pc D cy [.ref q39, .ref p1] sz L f) (pq_Qi D sz L f [q39, q23] (fun r cs1 => (∃ (F_q23 : List Value), r = (-1) ∧ cs1 = [(q39, .inr (6, F_q39)), (q23, .inr (9, F_q23))] ∧ pq_E 10 F_q23 [(0, .ref q24), (1, .int 0), (5, .int 0), (6, .int 0), (7, .int 4)]))) 0 0 (pw_A L f sz) := by
  refine Met.ofW (cc := cX6_readTree) (maxL := 5) (ret := (some .int)) (by decide) rfl ?_
  intro p e s m args below meth c s₁ B hml hv
  obtain ⟨rfl, hsz, hG, hP, hD0⟩ := hv
  have hx := B.exec
  have hb := B.bytes
  have hr := B.returns
  have hts := atoms_spec (ws := Cond.code yX6_readTree cX6_readTree 5 (some .int) :: pp_ws) B.pre
  have hpp := fun (w : Cond) (h : w ∈ pp_ws) => hts w (List.mem_cons_of_mem _ h)
  have hown : s.vm.findClass RX6 = some m.cls := findClass_of_methodNamed B.named
  have hlocks := B.notSynchronized
  have hw := pw_start (cy := cy) hsz hP hD0
  have hW := pq_start (as := [q39, q23]) hw hC rfl
  have hl := lv_entry ([.ref q39, .ref p1]) (n := 5) (Nat.le_of_ble_eq_true rfl)
  rw [lg_entry_eq]
  generalize (lg_sl ([.ref q39, .ref p1]) ++ List.replicate (5 - (lg_sl ([.ref q39, .ref p1])).length) Slot.unset).toArray = ls at hl ⊢
  have hl : lv_has ls 5 [(0, .ref q39), (1, .ref p1)] := hl
  refine lv_aload_n hx hb dX6_readTree_0 rfl (lv_at hl 0 rfl) ?_
  refine pq_get (own := RX6) (ci := 6) (C := RX6) (T := TX6) (N := 19) (k := 1) (v := .ref q23) hx hb hpp pi6 rfl hown hG hW 0 rfl E_q39 1 rfl (by decide) pp50 dX6_readTree_1 ?_
  refine pq_callv hW [1] [0] (by decide) rfl rfl (fun f9 hw9 hC9 => va_runV (C := RX9) (As := []) (rest := []) ⟨hx, hb, hml, hown, hts⟩ (c_X9_rewind l D cy _ L f9 q23 F_q23 hC9 E_q23) (cwV 0 hts (pp_gV pp59 pp58 pp60 pp61 pp8) rfl rfl rfl pd_X9_rewind ⟨Nat.le_of_ble_eq_true rfl, Nat.le_of_ble_eq_true rfl⟩) (pq_preV hG hw9 hC9 (j := 0) rfl rfl) rfl rfl hl.1 rfl (lv_room (Nat.le_of_ble_eq_true rfl)) dX6_readTree_4 ⟨Nat.le_of_ble_eq_true rfl, Nat.le_of_ble_eq_true rfl⟩) (fun cs1 H locs hP hW => ?_)
  obtain ⟨F_q23, rfl, E_q23⟩ := hP
  have hW : pq_W D _ s.heap L f _ [(q23, .inr (9, F_q23)), (q39, .inr (6, F_q39))] H locs := hW
  refine lv_iconst (v := 0) hx hb dX6_readTree_7 (by decide) ?_
  refine lv_istore_n (lv' := [(2, .int 0), (0, .ref q39), (1, .ref p1)]) hx hb dX6_readTree_8 rfl hl (by decide) rfl (fun ls hl => ?_)
  refine lv_iconst (v := 0) hx hb dX6_readTree_9 (by decide) ?_
  refine lv_istore_n (lv' := [(3, .int 0), (2, .int 0), (0, .ref q39), (1, .ref p1)]) hx hb dX6_readTree_10 rfl hl (by decide) rfl (fun ls hl => ?_)
  refine lv_iload_n hx hb dX6_readTree_11 rfl (lv_at hl 1 rfl) ?_
  refine lv_bipush (v := 60) hx hb dX6_readTree_12 (by decide) ?_
  refine lv_icmp_ge (tgt := 206) hx hb dX6_readTree_14 (by decide) (fun c9 => absurd c9 (by decide)) (fun _ => ?_)
  refine lv_aload_n hx hb dX6_readTree_17 rfl (lv_at hl 2 rfl) ?_
  refine pq_get (own := RX6) (ci := 6) (C := RX6) (T := TX6) (N := 19) (k := 1) (v := .ref q23) hx hb hpp pi6 rfl hown hG hW 1 rfl E_q39 1 rfl (by decide) pp50 dX6_readTree_18 ?_
  refine pq_get (own := RX6) (ci := 9) (C := RX9) (T := TX9) (N := 10) (k := 7) (v := .int 4) hx hb hpp pi9 rfl hown hG hW 0 rfl E_q23 4 rfl (by decide) pp177 dX6_readTree_21 ?_
  refine lv_iconst (v := 1) hx hb dX6_readTree_24 (by decide) ?_
  refine lv_icmp_ne (tgt := 206) hx hb dX6_readTree_25 (by decide) (fun _ => ?_) (fun c9 => absurd c9 (by decide))
  refine lv_iconst (v := (-1)) hx hb dX6_readTree_206 (by decide) ?_
  refine lv_aload_n hx hb dX6_readTree_207 rfl (lv_at hl 2 rfl) ?_
  refine pq_get (own := RX6) (ci := 6) (C := RX6) (T := TX6) (N := 19) (k := 1) (v := .ref q23) hx hb hpp pi6 rfl hown hG hW 1 rfl E_q39 1 rfl (by decide) pp50 dX6_readTree_208 ?_
  refine pq_get (own := RX6) (ci := 9) (C := RX9) (T := TX9) (N := 10) (k := 5) (v := .int 0) hx hb hpp pi9 rfl hown hG hW 0 rfl E_q23 2 rfl (by decide) pp178 dX6_readTree_211 ?_
  refine lv_isub hx hb dX6_readTree_214 ?_
  refine pq_topi (y := (-1)) (by decide) ?_
  exact pq_iret hx hb hr hlocks rfl (hW.pick (cs2 := [(q39, .inr (6, F_q39)), (q23, .inr (9, F_q23))]) [1, 0] (by decide) rfl) ⟨_, rfl, rfl, E_q23⟩ dX6_readTree_215
theorem pz_X12_tree_1 (n1 : Int32) (hq : n1 < 0 ∨ 7 < n1) : n1 < 0 ∨ 7 < n1 := by
  have k0 : (0 : Int32).toInt = 0 := by decide
  have k7 : (7 : Int32).toInt = 7 := by decide
  simp only [Int32.lt_iff_toInt_lt, Int32.le_iff_toInt_le, ← Int32.toInt_inj] at hq ⊢
  omega
theorem pz_X12_tree_2 (n1 : Int32) (c1 : ¬ (n1 < 0 ∨ 7 < n1)) : ¬ (n1 < 0 ∨ 7 < n1) := by
  have k0 : (0 : Int32).toInt = 0 := by decide
  have k7 : (7 : Int32).toInt = 7 := by decide
  simp only [Int32.lt_iff_toInt_lt, Int32.le_iff_toInt_le, ← Int32.toInt_inj] at c1 ⊢
  omega
set_option maxHeartbeats 4000000 in
set_option maxRecDepth 100000 in
/-- TongueHouse.tree on a new object -/
theorem c_X12_tree (l : Launch) (hst : l.stackTraces = false) (D : va_G) (cy : Nat → ClassId) (sa : Nat → Nat) (sz : Nat) (L : List Nat) (f : Nat → va_E) {q1 q24 q27 q48 q61 q100 q115 : Nat} (h0 q114 q39 q23 : Nat) (F_h0 : List Value) (F_q39 : List Value) (F_q23 : List Value) (n1 : Int32) (hC : pq_C L f [(h0, .inr (12, F_h0)), (q114, .inl (cy 7, 9, .inr (.inr (.inr (.inr (fun j => if j < 9 then some (q114 + 1 + j) else none)))))), (q39, .inr (6, F_q39)), (q23, .inr (9, F_q23))]) (E_h0 : pq_E 17 F_h0 [(0, .ref q1), (1, .ref q23), (2, .ref q27), (5, .ref q39), (6, .ref q48), (7, .ref q61), (10, .ref q100), (11, .ref q114), (12, .ref q115), (15, .int 0)]) (E_q39 : pq_E 19 F_q39 [(0, .ref q1), (1, .ref q23), (3, .int 0)]) (E_q23 : pq_E 10 F_q23 [(0, .ref q24), (1, .int 0), (5, .int 0), (6, .int 0), (7, .int 0)]) : vx_Met l yX12_tree (Cond.code yX12_tree cX12_tree 3 (some .int) :: pp_ws) ({ frames := 7, cells := 1, slots := 6, locals := 120 }) (px_Pc D cy sa [.ref h0, .int n1] sz L f) (pq_Qi D sz L f [h0, q114, q39, q23] (fun r cs1 => r = (-1) ∧ ¬ (n1 < 0 ∨ 7 < n1) ∧ cs1 = [])) (pq_T D sz L f [h0, q114, q39, q23] (fun E9 cs1 => E9 = px_IAE ∧ (n1 < 0 ∨ 7 < n1) ∧ cs1 = [])) 1 6 (pw_A L f sz) := by
  refine vx_ofW (cc := cX12_tree) (maxL := 3) (ret := (some .int)) (by decide) rfl ?_
  intro p e s m args below meth c s₁ B hml hno hv
  obtain ⟨rfl, hsz, hG, hX, hP, hD0⟩ := hv
  have hx := B.exec
  have hb := B.bytes
  have hr := B.returns
  have hts := atoms_spec (ws := Cond.code yX12_tree cX12_tree 3 (some .int) :: pp_ws) B.pre
  have hpp := fun (w : Cond) (h : w ∈ pp_ws) => hts w (List.mem_cons_of_mem _ h)
  have hown : s.vm.findClass RX12 = some m.cls := findClass_of_methodNamed B.named
  have hlocks := B.notSynchronized
  have hw := pw_start (cy := cy) hsz hP hD0
  have hW := pq_start (as := [h0, q114, q39, q23]) hw hC rfl
  have hl := lv_entry ([.ref h0, .int n1]) (n := 3) (Nat.le_of_ble_eq_true rfl)
  rw [lg_entry_eq]
  generalize (lg_sl ([.ref h0, .int n1]) ++ List.replicate (3 - (lg_sl ([.ref h0, .int n1])).length) Slot.unset).toArray = ls at hl ⊢
  have hl : lv_has ls 3 [(0, .ref h0), (1, .int n1)] := hl
  refine lv_iload_n hx hb dX12_tree_0 rfl (lv_at hl 1 rfl) ?_
  refine pq_xcallv hW [] [0, 1, 2, 3] (by decide) rfl rfl (fun f9 hw9 hC9 => vx_runS (As := [.int n1]) (rest := []) ⟨hx, hb, hml, hown, hts⟩ (c_X12_checkPlace l hst D cy sa _ L f9 n1 hC9) (va_cwS 1 hts (pp_gS pp166 pp165 pp167 pp123) rfl rfl rfl pd_X12_checkPlace ⟨Nat.le_of_ble_eq_true rfl, Nat.le_of_ble_eq_true rfl⟩) (pq_xpreS hG hX hw9) rfl rfl hl.1 rfl (lv_room (Nat.le_of_ble_eq_true rfl)) dX12_tree_1 ⟨Nat.le_of_ble_eq_true rfl, Nat.le_of_ble_eq_true rfl⟩) (fun E9 ce q9 cs1 H locs hP hW hce hcv hcl => ?_) (fun cs1 H locs hP hW => ?_)
  · obtain ⟨rfl, hq, rfl⟩ := hP
    exact pq_out hno hlocks hce hcv hcl (hW.pick (cs2 := []) [] (by decide) rfl) ⟨rfl, (pz_X12_tree_1 n1 hq), rfl⟩ (Nat.le_of_ble_eq_true rfl) (Nat.le_of_ble_eq_true rfl)
  · obtain ⟨c1, rfl⟩ := hP
    have hW : pq_W D _ s.heap L f _ [(h0, .inr (12, F_h0)), (q114, .inl (cy 7, 9, .inr (.inr (.inr (.inr (fun j => if j < 9 then some (q114 + 1 + j) else none)))))), (q39, .inr (6, F_q39)), (q23, .inr (9, F_q23))] H locs := hW
    refine lv_aload_n hx hb dX12_tree_4 rfl (lv_at hl 0 rfl) ?_
    refine pq_get (own := RX12) (ci := 12) (C := RX12) (T := TX12) (N := 17) (k := 5) (v := .ref q39) hx hb hpp pi12 rfl hown hG hW 0 rfl E_h0 3 rfl (by decide) pp27 dX12_tree_5 ?_
    refine lv_aload_n hx hb dX12_tree_8 rfl (lv_at hl 0 rfl) ?_
    refine pq_get (own := RX12) (ci := 12) (C := RX12) (T := TX12) (N := 17) (k := 11) (v := .ref q114) hx hb hpp pi12 rfl hown hG hW 0 rfl E_h0 7 rfl (by decide) pp168 dX12_tree_9 ?_
    refine lv_bipush (v := 8) hx hb dX12_tree_12 (by decide) ?_
    refine pq_aaldI (v := (q114 + 1 + 8)) hx hb hG hW 1 rfl (vp_in_iff.mpr ⟨by decide, by decide⟩) rfl dX12_tree_14 ?_
    refine pq_calli hW [2, 3] [0, 1] (by decide) rfl rfl (fun f9 hw9 hC9 => va_runV (C := RX6) (As := [.ref (q114 + 1 + 8)]) (rest := []) ⟨hx, hb, hml, hown, hts⟩ (c_X6_readTree l D cy _ L f9 q39 q23 F_q39 F_q23 (q114 + 1 + 8) hC9 E_q39 E_q23) (cwV 1 hts (pp_gV pp180 pp179 pp181 pp182 pp66) rfl rfl rfl pd_X6_readTree ⟨Nat.le_of_ble_eq_true rfl, Nat.le_of_ble_eq_true rfl⟩) (pq_preV hG hw9 hC9 (j := 0) rfl rfl) rfl rfl hl.1 rfl (lv_room (Nat.le_of_ble_eq_true rfl)) dX12_tree_15 ⟨Nat.le_of_ble_eq_true rfl, Nat.le_of_ble_eq_true rfl⟩) (fun r cs1 H locs hP hW => ?_)
    obtain ⟨F_q23, rfl, rfl, E_q23⟩ := hP
    have hW : pq_W D _ s.heap L f _ [(q39, .inr (6, F_q39)), (q23, .inr (9, F_q23)), (h0, .inr (12, F_h0)), (q114, .inl (cy 7, 9, .inr (.inr (.inr (.inr (fun j => if j < 9 then some (q114 + 1 + j) else none))))))] H locs := hW
    refine lv_istore_n (lv' := [(2, .int (-1)), (0, .ref h0), (1, .int n1)]) hx hb dX12_tree_18 rfl hl (by decide) rfl (fun ls hl => ?_)
    refine lv_aload_n hx hb dX12_tree_19 rfl (lv_at hl 1 rfl) ?_
    refine pq_get (own := RX12) (ci := 12) (C := RX12) (T := TX12) (N := 17) (k := 1) (v := .ref q23) hx hb hpp pi12 rfl hown hG hW 2 rfl E_h0 1 rfl (by decide) pp0 dX12_tree_20 ?_
    refine lv_iconst (v := 0) hx hb dX12_tree_23 (by decide) ?_
    refine pq_put (own := RX12) (ci := 9) (C := RX9) (T := TX9) (N := 10) (kv' := [(0, .ref q24), (1, .int 0), (5, .int 0), (6, .int 0), (7, .int 4)]) hx hb hpp pi9 tyX9 tyX9_ok nmX9 rfl hown hG hW 1 rfl E_q23 1 (by decide) rfl rfl rfl rfl pp1 dX12_tree_24 (fun F_q23 H locs hW E_q23 => ?_)
    have hW : pq_W D _ s.heap L f _ [(q39, .inr (6, F_q39)), (q23, .inr (9, F_q23)), (h0, .inr (12, F_h0)), (q114, .inl (cy 7, 9, .inr (.inr (.inr (.inr (fun j => if j < 9 then some (q114 + 1 + j) else none))))))] H locs := hW
    refine lv_iload_n hx hb dX12_tree_27 rfl (lv_at hl 0 rfl) ?_
    refine lv_if_le (tgt := 57) hx hb dX12_tree_28 (by decide) (fun _ => ?_) (fun c9 => absurd c9 (by decide))
    refine lv_iload_n hx hb dX12_tree_57 rfl (lv_at hl 0 rfl) ?_
    exact px_iret hx hb hr hlocks rfl (hW.pick (cs2 := []) [] (by decide) rfl) ⟨rfl, (pz_X12_tree_2 n1 c1), rfl⟩ (Nat.le_of_ble_eq_true rfl) (Nat.le_of_ble_eq_true rfl) dX12_tree_58
theorem pz_X12_show_1 (n1 : Int32) (hq : n1 < 0 ∨ 7 < n1) : n1 < 0 ∨ 7 < n1 := by
  have k0 : (0 : Int32).toInt = 0 := by decide
  have k7 : (7 : Int32).toInt = 7 := by decide
  simp only [Int32.lt_iff_toInt_lt, Int32.le_iff_toInt_le, ← Int32.toInt_inj] at hq ⊢
  omega
theorem pz_X12_show_2 (n1 : Int32) (c1 : ¬ (n1 < 0 ∨ 7 < n1)) : vp_in n1 9 := by
  refine vp_in_iff.mpr ?_
  have k0 : (0 : Int32).toInt = 0 := by decide
  have k7 : (7 : Int32).toInt = 7 := by decide
  have k9 : (9 : Int32).toInt = 9 := by decide
  simp only [Int32.lt_iff_toInt_lt, Int32.le_iff_toInt_le, ← Int32.toInt_inj] at c1
  omega
theorem pz_X12_show_3 (n1 : Int32) (c1 : ¬ (n1 < 0 ∨ 7 < n1)) : ¬ (n1 < 0 ∨ 7 < n1) := by
  have k0 : (0 : Int32).toInt = 0 := by decide
  have k7 : (7 : Int32).toInt = 7 := by decide
  simp only [Int32.lt_iff_toInt_lt, Int32.le_iff_toInt_le, ← Int32.toInt_inj] at c1 ⊢
  omega
set_option maxHeartbeats 4000000 in
set_option maxRecDepth 100000 in
/-- TongueHouse.show on a new object -/
theorem c_X12_show (l : Launch) (hst : l.stackTraces = false) (D : va_G) (cy : Nat → ClassId) (sa : Nat → Nat) (sz : Nat) (L : List Nat) (f : Nat → va_E) {q1 q23 q28 q39 q48 q61 q100 q114 : Nat} (h0 q27 q115 : Nat) (F_h0 : List Value) (F_q27 : List Value) (n1 : Int32) (hC : pq_C L f [(h0, .inr (12, F_h0)), (q27, .inr (9, F_q27)), (q115, .inl (cy 1, 9, .inl (fun _ => 0)))]) (E_h0 : pq_E 17 F_h0 [(0, .ref q1), (1, .ref q23), (2, .ref q27), (5, .ref q39), (6, .ref q48), (7, .ref q61), (10, .ref q100), (11, .ref q114), (12, .ref q115), (15, .int 0)]) (E_q27 : pq_E 10 F_q27 [(0, .ref q28), (1, .int 0), (5, .int 0), (6, .int 0), (7, .int 0)]) : vx_Met l yX12_show (Cond.code yX12_show cX12_show 2 (some .int) :: pp_ws) ({ frames := 7, cells := 1, slots := 6, locals := 120 }) (px_Pc D cy sa [.ref h0, .int n1] sz L f) (pq_Qi D sz L f [h0, q27, q115] (fun r cs1 => r = (-1) ∧ ¬ (n1 < 0 ∨ 7 < n1) ∧ cs1 = [])) (pq_T D sz L f [h0, q27, q115] (fun E9 cs1 => E9 = px_IAE ∧ (n1 < 0 ∨ 7 < n1) ∧ cs1 = [])) 1 6 (pw_A L f sz) := by
  refine vx_ofW (cc := cX12_show) (maxL := 2) (ret := (some .int)) (by decide) rfl ?_
  intro p e s m args below meth c s₁ B hml hno hv
  obtain ⟨rfl, hsz, hG, hX, hP, hD0⟩ := hv
  have hx := B.exec
  have hb := B.bytes
  have hr := B.returns
  have hts := atoms_spec (ws := Cond.code yX12_show cX12_show 2 (some .int) :: pp_ws) B.pre
  have hpp := fun (w : Cond) (h : w ∈ pp_ws) => hts w (List.mem_cons_of_mem _ h)
  have hown : s.vm.findClass RX12 = some m.cls := findClass_of_methodNamed B.named
  have hlocks := B.notSynchronized
  have hw := pw_start (cy := cy) hsz hP hD0
  have hW := pq_start (as := [h0, q27, q115]) hw hC rfl
  have hl := lv_entry ([.ref h0, .int n1]) (n := 2) (Nat.le_of_ble_eq_true rfl)
  rw [lg_entry_eq]
  generalize (lg_sl ([.ref h0, .int n1]) ++ List.replicate (2 - (lg_sl ([.ref h0, .int n1])).length) Slot.unset).toArray = ls at hl ⊢
  have hl : lv_has ls 2 [(0, .ref h0), (1, .int n1)] := hl
  refine lv_iload_n hx hb dX12_show_0 rfl (lv_at hl 1 rfl) ?_
  refine pq_xcallv hW [] [0, 1, 2] (by decide) rfl rfl (fun f9 hw9 hC9 => vx_runS (As := [.int n1]) (rest := []) ⟨hx, hb, hml, hown, hts⟩ (c_X12_checkPlace l hst D cy sa _ L f9 n1 hC9) (va_cwS 1 hts (pp_gS pp166 pp165 pp167 pp123) rfl rfl rfl pd_X12_checkPlace ⟨Nat.le_of_ble_eq_true rfl, Nat.le_of_ble_eq_true rfl⟩) (pq_xpreS hG hX hw9) rfl rfl hl.1 rfl (lv_room (Nat.le_of_ble_eq_true rfl)) dX12_show_1 ⟨Nat.le_of_ble_eq_true rfl, Nat.le_of_ble_eq_true rfl⟩) (fun E9 ce q9 cs1 H locs hP hW hce hcv hcl => ?_) (fun cs1 H locs hP hW => ?_)
  · obtain ⟨rfl, hq, rfl⟩ := hP
    exact pq_out hno hlocks hce hcv hcl (hW.pick (cs2 := []) [] (by decide) rfl) ⟨rfl, (pz_X12_show_1 n1 hq), rfl⟩ (Nat.le_of_ble_eq_true rfl) (Nat.le_of_ble_eq_true rfl)
  · obtain ⟨c1, rfl⟩ := hP
    have hW : pq_W D _ s.heap L f _ [(h0, .inr (12, F_h0)), (q27, .inr (9, F_q27)), (q115, .inl (cy 1, 9, .inl (fun _ => 0)))] H locs := hW
    refine lv_aload_n hx hb dX12_show_4 rfl (lv_at hl 0 rfl) ?_
    refine pq_get (own := RX12) (ci := 12) (C := RX12) (T := TX12) (N := 17) (k := 2) (v := .ref q27) hx hb hpp pi12 rfl hown hG hW 0 rfl E_h0 2 rfl (by decide) pp108 dX12_show_5 ?_
    refine lv_iconst (v := 0) hx hb dX12_show_8 (by decide) ?_
    refine pq_put (own := RX12) (ci := 9) (C := RX9) (T := TX9) (N := 10) (kv' := [(0, .ref q28), (1, .int 0), (5, .int 0), (6, .int 0), (7, .int 0)]) hx hb hpp pi9 tyX9 tyX9_ok nmX9 rfl hown hG hW 1 rfl E_q27 1 (by decide) rfl rfl rfl rfl pp1 dX12_show_9 (fun F_q27 H locs hW E_q27 => ?_)
    have hW : pq_W D _ s.heap L f _ [(h0, .inr (12, F_h0)), (q27, .inr (9, F_q27)), (q115, .inl (cy 1, 9, .inl (fun _ => 0)))] H locs := hW
    refine lv_aload_n hx hb dX12_show_12 rfl (lv_at hl 0 rfl) ?_
    refine pq_get (own := RX12) (ci := 12) (C := RX12) (T := TX12) (N := 17) (k := 12) (v := .ref q115) hx hb hpp pi12 rfl hown hG hW 0 rfl E_h0 8 rfl (by decide) pp188 dX12_show_13 ?_
    refine lv_iload_n hx hb dX12_show_16 rfl (lv_at hl 1 rfl) ?_
    refine pq_iald (v := 0) hx hb hG hW 2 rfl (pz_X12_show_2 n1 c1) rfl dX12_show_17 ?_
    refine lv_if_ne (tgt := 23) hx hb dX12_show_18 (by decide) (fun c9 => absurd c9 (by decide)) (fun _ => ?_)
    refine lv_iconst (v := (-1)) hx hb dX12_show_21 (by decide) ?_
    exact px_iret hx hb hr hlocks rfl (hW.pick (cs2 := []) [] (by decide) rfl) ⟨rfl, (pz_X12_show_3 n1 c1), rfl⟩ (Nat.le_of_ble_eq_true rfl) (Nat.le_of_ble_eq_true rfl) dX12_show_22
theorem pz_X12_same_1 (n1 n2 : Int32) (hq : n1 < 0 ∨ 7 < n1) : n1 < 0 ∨ 7 < n1 ∨ n2 < 0 ∨ 7 < n2 := by
  have k0 : (0 : Int32).toInt = 0 := by decide
  have k7 : (7 : Int32).toInt = 7 := by decide
  simp only [Int32.lt_iff_toInt_lt, Int32.le_iff_toInt_le, ← Int32.toInt_inj] at hq ⊢
  omega
theorem pz_X12_same_2 (n1 n2 : Int32) (c1 : ¬ (n1 < 0 ∨ 7 < n1)) (hq : n2 < 0 ∨ 7 < n2) : n1 < 0 ∨ 7 < n1 ∨ n2 < 0 ∨ 7 < n2 := by
  have k0 : (0 : Int32).toInt = 0 := by decide
  have k7 : (7 : Int32).toInt = 7 := by decide
  simp only [Int32.lt_iff_toInt_lt, Int32.le_iff_toInt_le, ← Int32.toInt_inj] at c1 hq ⊢
  omega
theorem pz_X12_same_3 (n1 n2 : Int32) (c1 : ¬ (n1 < 0 ∨ 7 < n1)) (c2 : ¬ (n2 < 0 ∨ 7 < n2)) : vp_in n1 9 := by
  refine vp_in_iff.mpr ?_
  have k0 : (0 : Int32).toInt = 0 := by decide
  have k7 : (7 : Int32).toInt = 7 := by decide
  have k9 : (9 : Int32).toInt = 9 := by decide
  simp only [Int32.lt_iff_toInt_lt, Int32.le_iff_toInt_le, ← Int32.toInt_inj] at c1 c2
  omega
theorem pz_X12_same_4 (n1 n2 : Int32) (c1 : ¬ (n1 < 0 ∨ 7 < n1)) (c2 : ¬ (n2 < 0 ∨ 7 < n2)) : vp_in n2 9 := by
  refine vp_in_iff.mpr ?_
  have k0 : (0 : Int32).toInt = 0 := by decide
  have k7 : (7 : Int32).toInt = 7 := by decide
  have k9 : (9 : Int32).toInt = 9 := by decide
  simp only [Int32.lt_iff_toInt_lt, Int32.le_iff_toInt_le, ← Int32.toInt_inj] at c1 c2
  omega
theorem pz_X12_same_5 (n1 n2 : Int32) (c1 : ¬ (n1 < 0 ∨ 7 < n1)) (c2 : ¬ (n2 < 0 ∨ 7 < n2)) : vp_in n1 9 := by
  refine vp_in_iff.mpr ?_
  have k0 : (0 : Int32).toInt = 0 := by decide
  have k7 : (7 : Int32).toInt = 7 := by decide
  have k9 : (9 : Int32).toInt = 9 := by decide
  simp only [Int32.lt_iff_toInt_lt, Int32.le_iff_toInt_le, ← Int32.toInt_inj] at c1 c2
  omega
theorem pz_X12_same_6 (n1 n2 : Int32) (c1 : ¬ (n1 < 0 ∨ 7 < n1)) (c2 : ¬ (n2 < 0 ∨ 7 < n2)) : ¬ (n1 < 0 ∨ 7 < n1 ∨ n2 < 0 ∨ 7 < n2) := by
  have k0 : (0 : Int32).toInt = 0 := by decide
  have k7 : (7 : Int32).toInt = 7 := by decide
  simp only [Int32.lt_iff_toInt_lt, Int32.le_iff_toInt_le, ← Int32.toInt_inj] at c1 c2 ⊢
  omega
set_option maxHeartbeats 4000000 in
set_option maxRecDepth 100000 in
/-- TongueHouse.same on a new object -/
theorem c_X12_same (l : Launch) (hst : l.stackTraces = false) (D : va_G) (cy : Nat → ClassId) (sa : Nat → Nat) (sz : Nat) (L : List Nat) (f : Nat → va_E) {q1 q23 q27 q39 q48 q61 q100 q114 : Nat} (h0 q115 : Nat) (F_h0 : List Value) (n1 : Int32) (n2 : Int32) (hC : pq_C L f [(h0, .inr (12, F_h0)), (q115, .inl (cy 1, 9, .inl (fun _ => 0)))]) (E_h0 : pq_E 17 F_h0 [(0, .ref q1), (1, .ref q23), (2, .ref q27), (5, .ref q39), (6, .ref q48), (7, .ref q61), (10, .ref q100), (11, .ref q114), (12, .ref q115), (15, .int 0)]) : vx_Met l yX12_same (Cond.code yX12_same cX12_same 4 (some .boolean) :: pp_ws) ({ frames := 7, cells := 2, slots := 12, locals := 120 }) (px_Pc D cy sa [.ref h0, .int n1, .int n2] sz L f) (pq_Qi D sz L f [h0, q115] (fun r cs1 => r = 1 ∧ ¬ (n1 < 0 ∨ 7 < n1 ∨ n2 < 0 ∨ 7 < n2) ∧ cs1 = [])) (pq_T D sz L f [h0, q115] (fun E9 cs1 => E9 = px_IAE ∧ (n1 < 0 ∨ 7 < n1 ∨ n2 < 0 ∨ 7 < n2) ∧ cs1 = [])) 2 12 (pw_A L f sz) := by
  refine vx_ofW (cc := cX12_same) (maxL := 4) (ret := (some .boolean)) (by decide) rfl ?_
  intro p e s m args below meth c s₁ B hml hno hv
  obtain ⟨rfl, hsz, hG, hX, hP, hD0⟩ := hv
  have hx := B.exec
  have hb := B.bytes
  have hr := B.returns
  have hts := atoms_spec (ws := Cond.code yX12_same cX12_same 4 (some .boolean) :: pp_ws) B.pre
  have hpp := fun (w : Cond) (h : w ∈ pp_ws) => hts w (List.mem_cons_of_mem _ h)
  have hown : s.vm.findClass RX12 = some m.cls := findClass_of_methodNamed B.named
  have hlocks := B.notSynchronized
  have hw := pw_start (cy := cy) hsz hP hD0
  have hW := pq_start (as := [h0, q115]) hw hC rfl
  have hl := lv_entry ([.ref h0, .int n1, .int n2]) (n := 4) (Nat.le_of_ble_eq_true rfl)
  rw [lg_entry_eq]
  generalize (lg_sl ([.ref h0, .int n1, .int n2]) ++ List.replicate (4 - (lg_sl ([.ref h0, .int n1, .int n2])).length) Slot.unset).toArray = ls at hl ⊢
  have hl : lv_has ls 4 [(0, .ref h0), (1, .int n1), (2, .int n2)] := hl
  refine lv_iload_n hx hb dX12_same_0 rfl (lv_at hl 1 rfl) ?_
  refine pq_xcallv hW [] [0, 1] (by decide) rfl rfl (fun f9 hw9 hC9 => vx_runS (As := [.int n1]) (rest := []) ⟨hx, hb, hml, hown, hts⟩ (c_X12_checkPlace l hst D cy sa _ L f9 n1 hC9) (va_cwS 1 hts (pp_gS pp166 pp165 pp167 pp123) rfl rfl rfl pd_X12_checkPlace ⟨Nat.le_of_ble_eq_true rfl, Nat.le_of_ble_eq_true rfl⟩) (pq_xpreS hG hX hw9) rfl rfl hl.1 rfl (lv_room (Nat.le_of_ble_eq_true rfl)) dX12_same_1 ⟨Nat.le_of_ble_eq_true rfl, Nat.le_of_ble_eq_true rfl⟩) (fun E9 ce q9 cs1 H locs hP hW hce hcv hcl => ?_) (fun cs1 H locs hP hW => ?_)
  · obtain ⟨rfl, hq, rfl⟩ := hP
    exact pq_out hno hlocks hce hcv hcl (hW.pick (cs2 := []) [] (by decide) rfl) ⟨rfl, (pz_X12_same_1 n1 n2 hq), rfl⟩ (Nat.le_of_ble_eq_true rfl) (Nat.le_of_ble_eq_true rfl)
  · obtain ⟨c1, rfl⟩ := hP
    have hW : pq_W D _ s.heap L f _ [(h0, .inr (12, F_h0)), (q115, .inl (cy 1, 9, .inl (fun _ => 0)))] H locs := hW
    refine lv_iload_n hx hb dX12_same_4 rfl (lv_at hl 2 rfl) ?_
    refine pq_xcallv hW [] [0, 1] (by decide) rfl rfl (fun f9 hw9 hC9 => vx_runS (As := [.int n2]) (rest := []) ⟨hx, hb, hml, hown, hts⟩ (c_X12_checkPlace l hst D cy sa _ L f9 n2 hC9) (va_cwS 1 hts (pp_gS pp166 pp165 pp167 pp123) rfl rfl rfl pd_X12_checkPlace ⟨Nat.le_of_ble_eq_true rfl, Nat.le_of_ble_eq_true rfl⟩) (pq_xpreS hG hX hw9) rfl rfl hl.1 rfl (lv_room (Nat.le_of_ble_eq_true rfl)) dX12_same_5 ⟨Nat.le_of_ble_eq_true rfl, Nat.le_of_ble_eq_true rfl⟩) (fun E9 ce q9 cs1 H locs hP hW hce hcv hcl => ?_) (fun cs1 H locs hP hW => ?_)
    · obtain ⟨rfl, hq, rfl⟩ := hP
      exact pq_out hno hlocks hce hcv hcl (hW.pick (cs2 := []) [] (by decide) rfl) ⟨rfl, (pz_X12_same_2 n1 n2 c1 hq), rfl⟩ (Nat.le_of_ble_eq_true rfl) (Nat.le_of_ble_eq_true rfl)
    · obtain ⟨c2, rfl⟩ := hP
      have hW : pq_W D _ s.heap L f _ [(h0, .inr (12, F_h0)), (q115, .inl (cy 1, 9, .inl (fun _ => 0)))] H locs := hW
      refine lv_aload_n hx hb dX12_same_8 rfl (lv_at hl 0 rfl) ?_
      refine pq_get (own := RX12) (ci := 12) (C := RX12) (T := TX12) (N := 17) (k := 12) (v := .ref q115) hx hb hpp pi12 rfl hown hG hW 0 rfl E_h0 8 rfl (by decide) pp188 dX12_same_9 ?_
      refine lv_iload_n hx hb dX12_same_12 rfl (lv_at hl 1 rfl) ?_
      refine pq_iald (v := 0) hx hb hG hW 1 rfl (pz_X12_same_3 n1 n2 c1 c2) rfl dX12_same_13 ?_
      refine lv_aload_n hx hb dX12_same_14 rfl (lv_at hl 0 rfl) ?_
      refine pq_get (own := RX12) (ci := 12) (C := RX12) (T := TX12) (N := 17) (k := 12) (v := .ref q115) hx hb hpp pi12 rfl hown hG hW 0 rfl E_h0 8 rfl (by decide) pp188 dX12_same_15 ?_
      refine lv_iload_n hx hb dX12_same_18 rfl (lv_at hl 2 rfl) ?_
      refine pq_iald (v := 0) hx hb hG hW 1 rfl (pz_X12_same_4 n1 n2 c1 c2) rfl dX12_same_19 ?_
      refine lv_icmp_eq (tgt := 25) hx hb dX12_same_20 (by decide) (fun _ => ?_) (fun c9 => absurd c9 (by decide))
      refine lv_iconst (v := 0) hx hb dX12_same_25 (by decide) ?_
      refine lv_istore_n (lv' := [(3, .int 0), (0, .ref h0), (1, .int n1), (2, .int n2)]) hx hb dX12_same_26 rfl hl (by decide) rfl (fun ls hl => ?_)
      refine lv_iload_n hx hb dX12_same_27 rfl (lv_at hl 0 rfl) ?_
      refine lv_aload_n hx hb dX12_same_28 rfl (lv_at hl 1 rfl) ?_
      refine pq_get (own := RX12) (ci := 12) (C := RX12) (T := TX12) (N := 17) (k := 12) (v := .ref q115) hx hb hpp pi12 rfl hown hG hW 0 rfl E_h0 8 rfl (by decide) pp188 dX12_same_29 ?_
      refine lv_iload_n hx hb dX12_same_32 rfl (lv_at hl 2 rfl) ?_
      refine pq_iald (v := 0) hx hb hG hW 1 rfl (pz_X12_same_5 n1 n2 c1 c2) rfl dX12_same_33 ?_
      refine lv_icmp_ge (tgt := 64) hx hb dX12_same_34 (by decide) (fun _ => ?_) (fun c9 => absurd c9 (by decide))
      refine lv_iconst (v := 1) hx hb dX12_same_64 (by decide) ?_
      exact px_iret hx hb hr hlocks rfl (hW.pick (cs2 := []) [] (by decide) rfl) ⟨rfl, (pz_X12_same_6 n1 n2 c1 c2), rfl⟩ (Nat.le_of_ble_eq_true rfl) (Nat.le_of_ble_eq_true rfl) dX12_same_65
theorem pz_X12_meaningOf_1 (n1 : Int32) (hz : ¬ n1 < 0) (hy : n1 < 8) : vp_in n1 9 := by
  refine vp_in_iff.mpr ?_
  have k0 : (0 : Int32).toInt = 0 := by decide
  have k8 : (8 : Int32).toInt = 8 := by decide
  have k9 : (9 : Int32).toInt = 9 := by decide
  simp only [Int32.lt_iff_toInt_lt, Int32.le_iff_toInt_le, ← Int32.toInt_inj] at hz hy
  omega
set_option maxHeartbeats 4000000 in
set_option maxRecDepth 100000 in
/-- TongueHouse.meaningOf on a new object -/
theorem c_X12_meaningOf (l : Launch) (D : va_G) (cy : Nat → ClassId) (sz : Nat) (L : List Nat) (f : Nat → va_E) {q1 q23 q27 q39 q48 q61 q100 q114 : Nat} (h0 q115 : Nat) (F_h0 : List Value) (n1 : Int32) (hz : ¬ n1 < 0) (hy : n1 < 8) (hC : pq_C L f [(h0, .inr (12, F_h0)), (q115, .inl (cy 1, 9, .inl (fun _ => 0)))]) (E_h0 : pq_E 17 F_h0 [(0, .ref q1), (1, .ref q23), (2, .ref q27), (5, .ref q39), (6, .ref q48), (7, .ref q61), (10, .ref q100), (11, .ref q114), (12, .ref q115), (15, .int 0)]) : Met l yX12_meaningOf (Cond.code yX12_meaningOf cX12_meaningOf 2 (some .int) :: pp_ws) ({ frames := 0, cells := 0, slots := 0, locals := 0 }) (pw_Pc D cy [.ref h0, .int n1] sz L f) (pq_Qi D sz L f [h0, q115] (fun r cs1 => (r = (-4) ∧ cs1 = [(h0, .inr (12, F_h0)), (q115, .inl (cy 1, 9, .inl (fun _ => 0)))]))) 0 0 (pw_A L f sz) := by
  refine Met.ofW (cc := cX12_meaningOf) (maxL := 2) (ret := (some .int)) (by decide) rfl ?_
  intro p e s m args below meth c s₁ B hml hv
  obtain ⟨rfl, hsz, hG, hP, hD0⟩ := hv
  have hx := B.exec
  have hb := B.bytes
  have hr := B.returns
  have hts := atoms_spec (ws := Cond.code yX12_meaningOf cX12_meaningOf 2 (some .int) :: pp_ws) B.pre
  have hpp := fun (w : Cond) (h : w ∈ pp_ws) => hts w (List.mem_cons_of_mem _ h)
  have hown : s.vm.findClass RX12 = some m.cls := findClass_of_methodNamed B.named
  have hlocks := B.notSynchronized
  have hw := pw_start (cy := cy) hsz hP hD0
  have hW := pq_start (as := [h0, q115]) hw hC rfl
  have hl := lv_entry ([.ref h0, .int n1]) (n := 2) (Nat.le_of_ble_eq_true rfl)
  rw [lg_entry_eq]
  generalize (lg_sl ([.ref h0, .int n1]) ++ List.replicate (2 - (lg_sl ([.ref h0, .int n1])).length) Slot.unset).toArray = ls at hl ⊢
  have hl : lv_has ls 2 [(0, .ref h0), (1, .int n1)] := hl
  refine lv_aload_n hx hb dX12_meaningOf_0 rfl (lv_at hl 0 rfl) ?_
  refine pq_get (own := RX12) (ci := 12) (C := RX12) (T := TX12) (N := 17) (k := 12) (v := .ref q115) hx hb hpp pi12 rfl hown hG hW 0 rfl E_h0 8 rfl (by decide) pp188 dX12_meaningOf_1 ?_
  refine lv_iload_n hx hb dX12_meaningOf_4 rfl (lv_at hl 1 rfl) ?_
  refine pq_iald (v := 0) hx hb hG hW 1 rfl (pz_X12_meaningOf_1 n1 hz hy) rfl dX12_meaningOf_5 ?_
  refine lv_if_ne (tgt := 12) hx hb dX12_meaningOf_6 (by decide) (fun c9 => absurd c9 (by decide)) (fun _ => ?_)
  refine lv_bipush (v := (-4)) hx hb dX12_meaningOf_9 (by decide) ?_
  exact pq_iret hx hb hr hlocks rfl hW ⟨rfl, rfl⟩ dX12_meaningOf_11
theorem pz_X12_mean_1 (n1 : Int32) (hq : n1 < 0 ∨ 7 < n1) : n1 < 0 ∨ 7 < n1 := by
  have k0 : (0 : Int32).toInt = 0 := by decide
  have k7 : (7 : Int32).toInt = 7 := by decide
  simp only [Int32.lt_iff_toInt_lt, Int32.le_iff_toInt_le, ← Int32.toInt_inj] at hq ⊢
  omega
theorem pz_X12_mean_2 (n1 : Int32) (c1 : ¬ (n1 < 0 ∨ 7 < n1)) : ¬ n1 < 0 := by
  have k0 : (0 : Int32).toInt = 0 := by decide
  have k7 : (7 : Int32).toInt = 7 := by decide
  simp only [Int32.lt_iff_toInt_lt, Int32.le_iff_toInt_le, ← Int32.toInt_inj] at c1 ⊢
  omega
theorem pz_X12_mean_3 (n1 : Int32) (c1 : ¬ (n1 < 0 ∨ 7 < n1)) : n1 < 8 := by
  have k0 : (0 : Int32).toInt = 0 := by decide
  have k7 : (7 : Int32).toInt = 7 := by decide
  have k8 : (8 : Int32).toInt = 8 := by decide
  simp only [Int32.lt_iff_toInt_lt, Int32.le_iff_toInt_le, ← Int32.toInt_inj] at c1 ⊢
  omega
theorem pz_X12_mean_4 (n1 : Int32) (c1 : ¬ (n1 < 0 ∨ 7 < n1)) : ¬ (n1 < 0 ∨ 7 < n1) := by
  have k0 : (0 : Int32).toInt = 0 := by decide
  have k7 : (7 : Int32).toInt = 7 := by decide
  simp only [Int32.lt_iff_toInt_lt, Int32.le_iff_toInt_le, ← Int32.toInt_inj] at c1 ⊢
  omega
set_option maxHeartbeats 4000000 in
set_option maxRecDepth 100000 in
/-- TongueHouse.mean on a new object -/
theorem c_X12_mean (l : Launch) (hst : l.stackTraces = false) (D : va_G) (cy : Nat → ClassId) (sa : Nat → Nat) (sz : Nat) (L : List Nat) (f : Nat → va_E) {q1 q23 q28 q39 q48 q61 q100 q114 : Nat} (h0 q27 q115 : Nat) (F_h0 : List Value) (F_q27 : List Value) (n1 : Int32) (hC : pq_C L f [(h0, .inr (12, F_h0)), (q27, .inr (9, F_q27)), (q115, .inl (cy 1, 9, .inl (fun _ => 0)))]) (E_h0 : pq_E 17 F_h0 [(0, .ref q1), (1, .ref q23), (2, .ref q27), (5, .ref q39), (6, .ref q48), (7, .ref q61), (10, .ref q100), (11, .ref q114), (12, .ref q115), (15, .int 0)]) (E_q27 : pq_E 10 F_q27 [(0, .ref q28), (1, .int 0), (5, .int 0), (6, .int 0), (7, .int 0)]) : vx_Met l yX12_mean (Cond.code yX12_mean cX12_mean 3 (some .int) :: pp_ws) ({ frames := 7, cells := 1, slots := 6, locals := 120 }) (px_Pc D cy sa [.ref h0, .int n1] sz L f) (pq_Qi D sz L f [h0, q27, q115] (fun r cs1 => r = (-4) ∧ ¬ (n1 < 0 ∨ 7 < n1) ∧ cs1 = [])) (pq_T D sz L f [h0, q27, q115] (fun E9 cs1 => E9 = px_IAE ∧ (n1 < 0 ∨ 7 < n1) ∧ cs1 = [])) 1 6 (pw_A L f sz) := by
  refine vx_ofW (cc := cX12_mean) (maxL := 3) (ret := (some .int)) (by decide) rfl ?_
  intro p e s m args below meth c s₁ B hml hno hv
  obtain ⟨rfl, hsz, hG, hX, hP, hD0⟩ := hv
  have hx := B.exec
  have hb := B.bytes
  have hr := B.returns
  have hts := atoms_spec (ws := Cond.code yX12_mean cX12_mean 3 (some .int) :: pp_ws) B.pre
  have hpp := fun (w : Cond) (h : w ∈ pp_ws) => hts w (List.mem_cons_of_mem _ h)
  have hown : s.vm.findClass RX12 = some m.cls := findClass_of_methodNamed B.named
  have hlocks := B.notSynchronized
  have hw := pw_start (cy := cy) hsz hP hD0
  have hW := pq_start (as := [h0, q27, q115]) hw hC rfl
  have hl := lv_entry ([.ref h0, .int n1]) (n := 3) (Nat.le_of_ble_eq_true rfl)
  rw [lg_entry_eq]
  generalize (lg_sl ([.ref h0, .int n1]) ++ List.replicate (3 - (lg_sl ([.ref h0, .int n1])).length) Slot.unset).toArray = ls at hl ⊢
  have hl : lv_has ls 3 [(0, .ref h0), (1, .int n1)] := hl
  refine lv_iload_n hx hb dX12_mean_0 rfl (lv_at hl 1 rfl) ?_
  refine pq_xcallv hW [] [0, 1, 2] (by decide) rfl rfl (fun f9 hw9 hC9 => vx_runS (As := [.int n1]) (rest := []) ⟨hx, hb, hml, hown, hts⟩ (c_X12_checkPlace l hst D cy sa _ L f9 n1 hC9) (va_cwS 1 hts (pp_gS pp166 pp165 pp167 pp123) rfl rfl rfl pd_X12_checkPlace ⟨Nat.le_of_ble_eq_true rfl, Nat.le_of_ble_eq_true rfl⟩) (pq_xpreS hG hX hw9) rfl rfl hl.1 rfl (lv_room (Nat.le_of_ble_eq_true rfl)) dX12_mean_1 ⟨Nat.le_of_ble_eq_true rfl, Nat.le_of_ble_eq_true rfl⟩) (fun E9 ce q9 cs1 H locs hP hW hce hcv hcl => ?_) (fun cs1 H locs hP hW => ?_)
  · obtain ⟨rfl, hq, rfl⟩ := hP
    exact pq_out hno hlocks hce hcv hcl (hW.pick (cs2 := []) [] (by decide) rfl) ⟨rfl, (pz_X12_mean_1 n1 hq), rfl⟩ (Nat.le_of_ble_eq_true rfl) (Nat.le_of_ble_eq_true rfl)
  · obtain ⟨c1, rfl⟩ := hP
    have hW : pq_W D _ s.heap L f _ [(h0, .inr (12, F_h0)), (q27, .inr (9, F_q27)), (q115, .inl (cy 1, 9, .inl (fun _ => 0)))] H locs := hW
    refine lv_aload_n hx hb dX12_mean_4 rfl (lv_at hl 0 rfl) ?_
    refine pq_get (own := RX12) (ci := 12) (C := RX12) (T := TX12) (N := 17) (k := 2) (v := .ref q27) hx hb hpp pi12 rfl hown hG hW 0 rfl E_h0 2 rfl (by decide) pp108 dX12_mean_5 ?_
    refine lv_iconst (v := 0) hx hb dX12_mean_8 (by decide) ?_
    refine pq_put (own := RX12) (ci := 9) (C := RX9) (T := TX9) (N := 10) (kv' := [(0, .ref q28), (1, .int 0), (5, .int 0), (6, .int 0), (7, .int 0)]) hx hb hpp pi9 tyX9 tyX9_ok nmX9 rfl hown hG hW 1 rfl E_q27 1 (by decide) rfl rfl rfl rfl pp1 dX12_mean_9 (fun F_q27 H locs hW E_q27 => ?_)
    have hW : pq_W D _ s.heap L f _ [(h0, .inr (12, F_h0)), (q27, .inr (9, F_q27)), (q115, .inl (cy 1, 9, .inl (fun _ => 0)))] H locs := hW
    refine lv_aload_n hx hb dX12_mean_12 rfl (lv_at hl 0 rfl) ?_
    refine lv_iload_n hx hb dX12_mean_13 rfl (lv_at hl 1 rfl) ?_
    refine pq_calli hW [0, 2] [1] (by decide) rfl rfl (fun f9 hw9 hC9 => va_runV (C := RX12) (As := [.int n1]) (rest := []) ⟨hx, hb, hml, hown, hts⟩ (c_X12_meaningOf l D cy _ L f9 h0 q115 F_h0 n1 (pz_X12_mean_2 n1 c1) (pz_X12_mean_3 n1 c1) hC9 E_h0) (cwV 1 hts (pp_gV pp195 pp194 pp196 pp197 pp123) rfl rfl rfl pd_X12_meaningOf ⟨Nat.le_of_ble_eq_true rfl, Nat.le_of_ble_eq_true rfl⟩) (pq_preV hG hw9 hC9 (j := 0) rfl rfl) rfl rfl hl.1 rfl (lv_room (Nat.le_of_ble_eq_true rfl)) dX12_mean_14 ⟨Nat.le_of_ble_eq_true rfl, Nat.le_of_ble_eq_true rfl⟩) (fun r cs1 H locs hP hW => ?_)
    obtain ⟨rfl, rfl⟩ := hP
    have hW : pq_W D _ s.heap L f _ [(h0, .inr (12, F_h0)), (q115, .inl (cy 1, 9, .inl (fun _ => 0))), (q27, .inr (9, F_q27))] H locs := hW
    refine lv_istore_n (lv' := [(2, .int (-4)), (0, .ref h0), (1, .int n1)]) hx hb dX12_mean_17 rfl hl (by decide) rfl (fun ls hl => ?_)
    refine lv_iload_n hx hb dX12_mean_18 rfl (lv_at hl 0 rfl) ?_
    refine lv_if_ge (tgt := 24) hx hb dX12_mean_19 (by decide) (fun c9 => absurd c9 (by decide)) (fun _ => ?_)
    refine lv_iload_n hx hb dX12_mean_22 rfl (lv_at hl 0 rfl) ?_
    exact px_iret hx hb hr hlocks rfl (hW.pick (cs2 := []) [] (by decide) rfl) ⟨rfl, (pz_X12_mean_4 n1 c1), rfl⟩ (Nat.le_of_ble_eq_true rfl) (Nat.le_of_ble_eq_true rfl) dX12_mean_23
theorem pz_X12_truth_1 (n1 : Int32) (hq : n1 < 0 ∨ 7 < n1) : n1 < 0 ∨ 7 < n1 := by
  have k0 : (0 : Int32).toInt = 0 := by decide
  have k7 : (7 : Int32).toInt = 7 := by decide
  simp only [Int32.lt_iff_toInt_lt, Int32.le_iff_toInt_le, ← Int32.toInt_inj] at hq ⊢
  omega
theorem pz_X12_truth_2 (n1 : Int32) (c1 : ¬ (n1 < 0 ∨ 7 < n1)) : ¬ n1 < 0 := by
  have k0 : (0 : Int32).toInt = 0 := by decide
  have k7 : (7 : Int32).toInt = 7 := by decide
  simp only [Int32.lt_iff_toInt_lt, Int32.le_iff_toInt_le, ← Int32.toInt_inj] at c1 ⊢
  omega
theorem pz_X12_truth_3 (n1 : Int32) (c1 : ¬ (n1 < 0 ∨ 7 < n1)) : n1 < 8 := by
  have k0 : (0 : Int32).toInt = 0 := by decide
  have k7 : (7 : Int32).toInt = 7 := by decide
  have k8 : (8 : Int32).toInt = 8 := by decide
  simp only [Int32.lt_iff_toInt_lt, Int32.le_iff_toInt_le, ← Int32.toInt_inj] at c1 ⊢
  omega
theorem pz_X12_truth_4 (n1 : Int32) (c1 : ¬ (n1 < 0 ∨ 7 < n1)) : ¬ (n1 < 0 ∨ 7 < n1) := by
  have k0 : (0 : Int32).toInt = 0 := by decide
  have k7 : (7 : Int32).toInt = 7 := by decide
  simp only [Int32.lt_iff_toInt_lt, Int32.le_iff_toInt_le, ← Int32.toInt_inj] at c1 ⊢
  omega
set_option maxHeartbeats 4000000 in
set_option maxRecDepth 100000 in
/-- TongueHouse.truth on a new object -/
theorem c_X12_truth (l : Launch) (hst : l.stackTraces = false) (D : va_G) (cy : Nat → ClassId) (sa : Nat → Nat) (sz : Nat) (L : List Nat) (f : Nat → va_E) {q1 q23 q27 q39 q48 q61 q100 q114 : Nat} (h0 q115 : Nat) (F_h0 : List Value) (n1 : Int32) (hC : pq_C L f [(h0, .inr (12, F_h0)), (q115, .inl (cy 1, 9, .inl (fun _ => 0)))]) (E_h0 : pq_E 17 F_h0 [(0, .ref q1), (1, .ref q23), (2, .ref q27), (5, .ref q39), (6, .ref q48), (7, .ref q61), (10, .ref q100), (11, .ref q114), (12, .ref q115), (15, .int 0)]) : vx_Met l yX12_truth (Cond.code yX12_truth cX12_truth 3 (some .int) :: pp_ws) ({ frames := 7, cells := 1, slots := 6, locals := 120 }) (px_Pc D cy sa [.ref h0, .int n1] sz L f) (pq_Qi D sz L f [h0, q115] (fun r cs1 => r = (-4) ∧ ¬ (n1 < 0 ∨ 7 < n1) ∧ cs1 = [])) (pq_T D sz L f [h0, q115] (fun E9 cs1 => E9 = px_IAE ∧ (n1 < 0 ∨ 7 < n1) ∧ cs1 = [])) 1 6 (pw_A L f sz) := by
  refine vx_ofW (cc := cX12_truth) (maxL := 3) (ret := (some .int)) (by decide) rfl ?_
  intro p e s m args below meth c s₁ B hml hno hv
  obtain ⟨rfl, hsz, hG, hX, hP, hD0⟩ := hv
  have hx := B.exec
  have hb := B.bytes
  have hr := B.returns
  have hts := atoms_spec (ws := Cond.code yX12_truth cX12_truth 3 (some .int) :: pp_ws) B.pre
  have hpp := fun (w : Cond) (h : w ∈ pp_ws) => hts w (List.mem_cons_of_mem _ h)
  have hown : s.vm.findClass RX12 = some m.cls := findClass_of_methodNamed B.named
  have hlocks := B.notSynchronized
  have hw := pw_start (cy := cy) hsz hP hD0
  have hW := pq_start (as := [h0, q115]) hw hC rfl
  have hl := lv_entry ([.ref h0, .int n1]) (n := 3) (Nat.le_of_ble_eq_true rfl)
  rw [lg_entry_eq]
  generalize (lg_sl ([.ref h0, .int n1]) ++ List.replicate (3 - (lg_sl ([.ref h0, .int n1])).length) Slot.unset).toArray = ls at hl ⊢
  have hl : lv_has ls 3 [(0, .ref h0), (1, .int n1)] := hl
  refine lv_iload_n hx hb dX12_truth_0 rfl (lv_at hl 1 rfl) ?_
  refine pq_xcallv hW [] [0, 1] (by decide) rfl rfl (fun f9 hw9 hC9 => vx_runS (As := [.int n1]) (rest := []) ⟨hx, hb, hml, hown, hts⟩ (c_X12_checkPlace l hst D cy sa _ L f9 n1 hC9) (va_cwS 1 hts (pp_gS pp166 pp165 pp167 pp123) rfl rfl rfl pd_X12_checkPlace ⟨Nat.le_of_ble_eq_true rfl, Nat.le_of_ble_eq_true rfl⟩) (pq_xpreS hG hX hw9) rfl rfl hl.1 rfl (lv_room (Nat.le_of_ble_eq_true rfl)) dX12_truth_1 ⟨Nat.le_of_ble_eq_true rfl, Nat.le_of_ble_eq_true rfl⟩) (fun E9 ce q9 cs1 H locs hP hW hce hcv hcl => ?_) (fun cs1 H locs hP hW => ?_)
  · obtain ⟨rfl, hq, rfl⟩ := hP
    exact pq_out hno hlocks hce hcv hcl (hW.pick (cs2 := []) [] (by decide) rfl) ⟨rfl, (pz_X12_truth_1 n1 hq), rfl⟩ (Nat.le_of_ble_eq_true rfl) (Nat.le_of_ble_eq_true rfl)
  · obtain ⟨c1, rfl⟩ := hP
    have hW : pq_W D _ s.heap L f _ [(h0, .inr (12, F_h0)), (q115, .inl (cy 1, 9, .inl (fun _ => 0)))] H locs := hW
    refine lv_aload_n hx hb dX12_truth_4 rfl (lv_at hl 0 rfl) ?_
    refine lv_iload_n hx hb dX12_truth_5 rfl (lv_at hl 1 rfl) ?_
    refine pq_calli hW [0, 1] [] (by decide) rfl rfl (fun f9 hw9 hC9 => va_runV (C := RX12) (As := [.int n1]) (rest := []) ⟨hx, hb, hml, hown, hts⟩ (c_X12_meaningOf l D cy _ L f9 h0 q115 F_h0 n1 (pz_X12_truth_2 n1 c1) (pz_X12_truth_3 n1 c1) hC9 E_h0) (cwV 1 hts (pp_gV pp195 pp194 pp196 pp197 pp123) rfl rfl rfl pd_X12_meaningOf ⟨Nat.le_of_ble_eq_true rfl, Nat.le_of_ble_eq_true rfl⟩) (pq_preV hG hw9 hC9 (j := 0) rfl rfl) rfl rfl hl.1 rfl (lv_room (Nat.le_of_ble_eq_true rfl)) dX12_truth_6 ⟨Nat.le_of_ble_eq_true rfl, Nat.le_of_ble_eq_true rfl⟩) (fun r cs1 H locs hP hW => ?_)
    obtain ⟨rfl, rfl⟩ := hP
    have hW : pq_W D _ s.heap L f _ [(h0, .inr (12, F_h0)), (q115, .inl (cy 1, 9, .inl (fun _ => 0)))] H locs := hW
    refine lv_istore_n (lv' := [(2, .int (-4)), (0, .ref h0), (1, .int n1)]) hx hb dX12_truth_9 rfl hl (by decide) rfl (fun ls hl => ?_)
    refine lv_iload_n hx hb dX12_truth_10 rfl (lv_at hl 0 rfl) ?_
    refine lv_if_ge (tgt := 18) hx hb dX12_truth_11 (by decide) (fun c9 => absurd c9 (by decide)) (fun _ => ?_)
    refine lv_iload_n hx hb dX12_truth_14 rfl (lv_at hl 0 rfl) ?_
    refine lv_goto (tgt := 25) hx hb dX12_truth_15 (by decide) ?_
    exact px_iret hx hb hr hlocks rfl (hW.pick (cs2 := []) [] (by decide) rfl) ⟨rfl, (pz_X12_truth_4 n1 c1), rfl⟩ (Nat.le_of_ble_eq_true rfl) (Nat.le_of_ble_eq_true rfl) dX12_truth_25
