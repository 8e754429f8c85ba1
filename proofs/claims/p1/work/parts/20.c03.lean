set_option maxHeartbeats 4000000 in
set_option maxRecDepth 100000 in
/-- TongueHouse$Ranking.total on a new object -/
theorem c_X5_total (l : Launch) (D : va_G) (cy : Nat → ClassId) (sz : Nat) (L : List Nat) (f : Nat → va_E) (q61 : Nat) (F_q61 : List Value) (hC : pq_C L f [(q61, .inr (5, F_q61))]) (E_q61 : pq_E 19 F_q61 [(3, .int 0), (15, .int 0)]) : Met l yX5_total (Cond.code yX5_total cX5_total 5 (some .long) :: pp_ws) ({ frames := 0, cells := 0, slots := 0, locals := 0 }) (pw_Pc D cy [.ref q61] sz L f) (pq_Ql D sz L f [q61] (fun r cs1 => (r = 0 ∧ cs1 = [(q61, .inr (5, F_q61))]))) 0 0 (pw_A L f sz) := by
  refine Met.ofW (cc := cX5_total) (maxL := 5) (ret := (some .long)) (by decide) rfl ?_
  intro p e s m args below meth c s₁ B hml hv
  obtain ⟨rfl, hsz, hG, hP, hD0⟩ := hv
  have hx := B.exec
  have hb := B.bytes
  have hr := B.returns
  have hts := atoms_spec (ws := Cond.code yX5_total cX5_total 5 (some .long) :: pp_ws) B.pre
  have hpp := fun (w : Cond) (h : w ∈ pp_ws) => hts w (List.mem_cons_of_mem _ h)
  have hown : s.vm.findClass RX5 = some m.cls := findClass_of_methodNamed B.named
  have hlocks := B.notSynchronized
  have hw := pw_start (cy := cy) hsz hP hD0
  have hW := pq_start (as := [q61]) hw hC rfl
  have hl := lv_entry ([.ref q61]) (n := 5) (Nat.le_of_ble_eq_true rfl)
  rw [lg_entry_eq]
  generalize (lg_sl ([.ref q61]) ++ List.replicate (5 - (lg_sl ([.ref q61])).length) Slot.unset).toArray = ls at hl ⊢
  have hl : lv_has ls 5 [(0, .ref q61)] := hl
  refine lv_aload_n hx hb dX5_total_0 rfl (lv_at hl 0 rfl) ?_
  refine pq_get (own := RX5) (ci := 5) (C := RX5) (T := TX5) (N := 19) (k := 3) (v := .int 0) hx hb hpp pi5 rfl hown hG hW 0 rfl E_q61 0 rfl (by decide) pp146 dX5_total_1 ?_
  refine lv_if_ne (tgt := 9) hx hb dX5_total_4 (by decide) (fun c9 => absurd c9 (by decide)) (fun _ => ?_)
  refine lv_lconst (v := 0) hx hb dX5_total_7 (by decide) ?_
  exact pq_lret hx hb hr hlocks hW ⟨rfl, rfl⟩ dX5_total_8
set_option maxHeartbeats 4000000 in
set_option maxRecDepth 100000 in
/-- TongueHouse.trees on a new object -/
theorem c_X12_trees (l : Launch) (D : va_G) (cy : Nat → ClassId) (sz : Nat) (L : List Nat) (f : Nat → va_E) {q1 q23 q27 q39 q48 q100 q114 q115 : Nat} (h0 q61 : Nat) (F_h0 : List Value) (F_q61 : List Value) (hC : pq_C L f [(h0, .inr (12, F_h0)), (q61, .inr (5, F_q61))]) (E_h0 : pq_E 17 F_h0 [(0, .ref q1), (1, .ref q23), (2, .ref q27), (5, .ref q39), (6, .ref q48), (7, .ref q61), (10, .ref q100), (11, .ref q114), (12, .ref q115), (15, .int 0)]) (E_q61 : pq_E 19 F_q61 [(3, .int 0), (15, .int 0)]) : Met l yX12_trees (Cond.code yX12_trees cX12_trees 1 (some .long) :: pp_ws) ({ frames := 1, cells := 0, slots := 0, locals := 24 }) (pw_Pc D cy [.ref h0] sz L f) (pq_Ql D sz L f [h0, q61] (fun r cs1 => r = 0 ∧ ¬ (False) ∧ cs1 = [])) 0 0 (pw_A L f sz) := by
  refine Met.ofW (cc := cX12_trees) (maxL := 1) (ret := (some .long)) (by decide) rfl ?_
  intro p e s m args below meth c s₁ B hml hv
  obtain ⟨rfl, hsz, hG, hP, hD0⟩ := hv
  have hx := B.exec
  have hb := B.bytes
  have hr := B.returns
  have hts := atoms_spec (ws := Cond.code yX12_trees cX12_trees 1 (some .long) :: pp_ws) B.pre
  have hpp := fun (w : Cond) (h : w ∈ pp_ws) => hts w (List.mem_cons_of_mem _ h)
  have hown : s.vm.findClass RX12 = some m.cls := findClass_of_methodNamed B.named
  have hlocks := B.notSynchronized
  have hw := pw_start (cy := cy) hsz hP hD0
  have hW := pq_start (as := [h0, q61]) hw hC rfl
  have hl := lv_entry ([.ref h0]) (n := 1) (Nat.le_of_ble_eq_true rfl)
  rw [lg_entry_eq]
  generalize (lg_sl ([.ref h0]) ++ List.replicate (1 - (lg_sl ([.ref h0])).length) Slot.unset).toArray = ls at hl ⊢
  have hl : lv_has ls 1 [(0, .ref h0)] := hl
  refine lv_aload_n hx hb dX12_trees_0 rfl (lv_at hl 0 rfl) ?_
  refine pq_get (own := RX12) (ci := 12) (C := RX12) (T := TX12) (N := 17) (k := 7) (v := .ref q61) hx hb hpp pi12 rfl hown hG hW 0 rfl E_h0 5 rfl (by decide) pp145 dX12_trees_1 ?_
  refine pq_calll hW [1] [0] (by decide) rfl rfl (fun f9 hw9 hC9 => va_runV (C := RX5) (As := []) (rest := []) ⟨hx, hb, hml, hown, hts⟩ (c_X5_total l D cy _ L f9 q61 F_q61 hC9 E_q61) (cwV 0 hts (pp_gV pp148 pp147 pp149 pp150 pp151) rfl rfl rfl pd_X5_total ⟨Nat.le_of_ble_eq_true rfl, Nat.le_of_ble_eq_true rfl⟩) (pq_preV hG hw9 hC9 (j := 0) rfl rfl) rfl rfl hl.1 rfl (lv_room (Nat.le_of_ble_eq_true rfl)) dX12_trees_4 ⟨Nat.le_of_ble_eq_true rfl, Nat.le_of_ble_eq_true rfl⟩) (fun r cs1 H locs hP hW => ?_)
  obtain ⟨rfl, rfl⟩ := hP
  have hW : pq_W D _ s.heap L f _ [(q61, .inr (5, F_q61)), (h0, .inr (12, F_h0))] H locs := hW
  exact pq_lret hx hb hr hlocks (hW.pick (cs2 := []) [] (by decide) rfl) ⟨rfl, not_false, rfl⟩ dX12_trees_7
set_option maxHeartbeats 4000000 in
set_option maxRecDepth 100000 in
/-- TongueHouse$Ranking.rank on a new object -/
theorem c_X5_rank (l : Launch) (D : va_G) (cy : Nat → ClassId) (sz : Nat) (L : List Nat) (f : Nat → va_E) (q61 : Nat) (F_q61 : List Value) (hC : pq_C L f [(q61, .inr (5, F_q61))]) (E_q61 : pq_E 19 F_q61 [(3, .int 0), (15, .int 0)]) : Met l yX5_rank (Cond.code yX5_rank cX5_rank 4 none :: pp_ws) ({ frames := 0, cells := 0, slots := 0, locals := 0 }) (pw_Pc D cy [.ref q61] sz L f) (pq_Qv D sz L f [q61] (fun cs1 => (cs1 = [(q61, .inr (5, F_q61))]))) 0 0 (pw_A L f sz) := by
  refine Met.ofW (cc := cX5_rank) (maxL := 4) (ret := none) (by decide) rfl ?_
  intro p e s m args below meth c s₁ B hml hv
  obtain ⟨rfl, hsz, hG, hP, hD0⟩ := hv
  have hx := B.exec
  have hb := B.bytes
  have hr := B.returns
  have hts := atoms_spec (ws := Cond.code yX5_rank cX5_rank 4 none :: pp_ws) B.pre
  have hpp := fun (w : Cond) (h : w ∈ pp_ws) => hts w (List.mem_cons_of_mem _ h)
  have hown : s.vm.findClass RX5 = some m.cls := findClass_of_methodNamed B.named
  have hlocks := B.notSynchronized
  have hw := pw_start (cy := cy) hsz hP hD0
  have hW := pq_start (as := [q61]) hw hC rfl
  have hl := lv_entry ([.ref q61]) (n := 4) (Nat.le_of_ble_eq_true rfl)
  rw [lg_entry_eq]
  generalize (lg_sl ([.ref q61]) ++ List.replicate (4 - (lg_sl ([.ref q61])).length) Slot.unset).toArray = ls at hl ⊢
  have hl : lv_has ls 4 [(0, .ref q61)] := hl
  refine lv_aload_n hx hb dX5_rank_0 rfl (lv_at hl 0 rfl) ?_
  refine pq_get (own := RX5) (ci := 5) (C := RX5) (T := TX5) (N := 19) (k := 3) (v := .int 0) hx hb hpp pi5 rfl hown hG hW 0 rfl E_q61 0 rfl (by decide) pp146 dX5_rank_1 ?_
  refine lv_if_eq (tgt := 14) hx hb dX5_rank_4 (by decide) (fun _ => ?_) (fun c9 => absurd c9 (by decide))
  exact pq_vret hx hb hr hlocks hW rfl dX5_rank_14
theorem pz_X5_priceOf_1 (n1 : Int32) (c1 : ¬ n1 < 0) (c2 : ¬ 0 ≤ n1) : False := by
  have k0 : (0 : Int32).toInt = 0 := by decide
  simp only [Int32.lt_iff_toInt_lt, Int32.le_iff_toInt_le, ← Int32.toInt_inj] at c1 c2 ⊢
  omega
set_option maxHeartbeats 4000000 in
set_option maxRecDepth 100000 in
/-- TongueHouse$Ranking.priceOf on a new object -/
theorem c_X5_priceOf (l : Launch) (D : va_G) (cy : Nat → ClassId) (sz : Nat) (L : List Nat) (f : Nat → va_E) (q61 : Nat) (F_q61 : List Value) (n1 : Int32) (hC : pq_C L f [(q61, .inr (5, F_q61))]) (E_q61 : pq_E 19 F_q61 [(3, .int 0), (15, .int 0)]) : Met l yX5_priceOf (Cond.code yX5_priceOf cX5_priceOf 2 (some .int) :: pp_ws) ({ frames := 1, cells := 0, slots := 0, locals := 23 }) (pw_Pc D cy [.ref q61, .int n1] sz L f) (pq_Qi D sz L f [q61] (fun r cs1 => (r = (-1) ∧ cs1 = [(q61, .inr (5, F_q61))]))) 0 0 (pw_A L f sz) := by
  refine Met.ofW (cc := cX5_priceOf) (maxL := 2) (ret := (some .int)) (by decide) rfl ?_
  intro p e s m args below meth c s₁ B hml hv
  obtain ⟨rfl, hsz, hG, hP, hD0⟩ := hv
  have hx := B.exec
  have hb := B.bytes
  have hr := B.returns
  have hts := atoms_spec (ws := Cond.code yX5_priceOf cX5_priceOf 2 (some .int) :: pp_ws) B.pre
  have hpp := fun (w : Cond) (h : w ∈ pp_ws) => hts w (List.mem_cons_of_mem _ h)
  have hown : s.vm.findClass RX5 = some m.cls := findClass_of_methodNamed B.named
  have hlocks := B.notSynchronized
  have hw := pw_start (cy := cy) hsz hP hD0
  have hW := pq_start (as := [q61]) hw hC rfl
  have hl := lv_entry ([.ref q61, .int n1]) (n := 2) (Nat.le_of_ble_eq_true rfl)
  rw [lg_entry_eq]
  generalize (lg_sl ([.ref q61, .int n1]) ++ List.replicate (2 - (lg_sl ([.ref q61, .int n1])).length) Slot.unset).toArray = ls at hl ⊢
  have hl : lv_has ls 2 [(0, .ref q61), (1, .int n1)] := hl
  refine lv_aload_n hx hb dX5_priceOf_0 rfl (lv_at hl 0 rfl) ?_
  refine pq_callv hW [0] [] (by decide) rfl rfl (fun f9 hw9 hC9 => va_runV (C := RX5) (As := []) (rest := []) ⟨hx, hb, hml, hown, hts⟩ (c_X5_rank l D cy _ L f9 q61 F_q61 hC9 E_q61) (cwV 0 hts (pp_gV pp154 pp153 pp155 pp156 pp151) rfl rfl rfl pd_X5_rank ⟨Nat.le_of_ble_eq_true rfl, Nat.le_of_ble_eq_true rfl⟩) (pq_preV hG hw9 hC9 (j := 0) rfl rfl) rfl rfl hl.1 rfl (lv_room (Nat.le_of_ble_eq_true rfl)) dX5_priceOf_1 ⟨Nat.le_of_ble_eq_true rfl, Nat.le_of_ble_eq_true rfl⟩) (fun cs1 H locs hP hW => ?_)
  obtain ⟨rfl⟩ := hP
  have hW : pq_W D _ s.heap L f _ [(q61, .inr (5, F_q61))] H locs := hW
  refine lv_iload_n hx hb dX5_priceOf_4 rfl (lv_at hl 1 rfl) ?_
  refine lv_if_lt (tgt := 25) hx hb dX5_priceOf_5 (by decide) (fun c1 => ?_) (fun c1 => ?_)
  · refine lv_iconst (v := (-1)) hx hb dX5_priceOf_25 (by decide) ?_
    exact pq_iret hx hb hr hlocks rfl hW ⟨rfl, rfl⟩ dX5_priceOf_26
  · refine lv_iload_n hx hb dX5_priceOf_8 rfl (lv_at hl 1 rfl) ?_
    refine lv_aload_n hx hb dX5_priceOf_9 rfl (lv_at hl 0 rfl) ?_
    refine pq_get (own := RX5) (ci := 5) (C := RX5) (T := TX5) (N := 19) (k := 15) (v := .int 0) hx hb hpp pi5 rfl hown hG hW 0 rfl E_q61 1 rfl (by decide) pp157 dX5_priceOf_10 ?_
    refine lv_icmp_ge (tgt := 25) hx hb dX5_priceOf_13 (by decide) (fun _ => ?_) (fun c2 => (pz_X5_priceOf_1 n1 c1 c2).elim)
    refine lv_iconst (v := (-1)) hx hb dX5_priceOf_25 (by decide) ?_
    exact pq_iret hx hb hr hlocks rfl hW ⟨rfl, rfl⟩ dX5_priceOf_26
set_option maxHeartbeats 4000000 in
set_option maxRecDepth 100000 in
/-- TongueHouse.price on a new object -/
theorem c_X12_price (l : Launch) (D : va_G) (cy : Nat → ClassId) (sz : Nat) (L : List Nat) (f : Nat → va_E) {q1 q23 q27 q39 q48 q100 q114 q115 : Nat} (h0 q61 : Nat) (F_h0 : List Value) (F_q61 : List Value) (n1 : Int32) (hC : pq_C L f [(h0, .inr (12, F_h0)), (q61, .inr (5, F_q61))]) (E_h0 : pq_E 17 F_h0 [(0, .ref q1), (1, .ref q23), (2, .ref q27), (5, .ref q39), (6, .ref q48), (7, .ref q61), (10, .ref q100), (11, .ref q114), (12, .ref q115), (15, .int 0)]) (E_q61 : pq_E 19 F_q61 [(3, .int 0), (15, .int 0)]) : Met l yX12_price (Cond.code yX12_price cX12_price 2 (some .int) :: pp_ws) ({ frames := 2, cells := 0, slots := 0, locals := 44 }) (pw_Pc D cy [.ref h0, .int n1] sz L f) (pq_Qi D sz L f [h0, q61] (fun r cs1 => r = (-1) ∧ ¬ (False) ∧ cs1 = [])) 0 0 (pw_A L f sz) := by
  refine Met.ofW (cc := cX12_price) (maxL := 2) (ret := (some .int)) (by decide) rfl ?_
  intro p e s m args below meth c s₁ B hml hv
  obtain ⟨rfl, hsz, hG, hP, hD0⟩ := hv
  have hx := B.exec
  have hb := B.bytes
  have hr := B.returns
  have hts := atoms_spec (ws := Cond.code yX12_price cX12_price 2 (some .int) :: pp_ws) B.pre
  have hpp := fun (w : Cond) (h : w ∈ pp_ws) => hts w (List.mem_cons_of_mem _ h)
  have hown : s.vm.findClass RX12 = some m.cls := findClass_of_methodNamed B.named
  have hlocks := B.notSynchronized
  have hw := pw_start (cy := cy) hsz hP hD0
  have hW := pq_start (as := [h0, q61]) hw hC rfl
  have hl := lv_entry ([.ref h0, .int n1]) (n := 2) (Nat.le_of_ble_eq_true rfl)
  rw [lg_entry_eq]
  generalize (lg_sl ([.ref h0, .int n1]) ++ List.replicate (2 - (lg_sl ([.ref h0, .int n1])).length) Slot.unset).toArray = ls at hl ⊢
  have hl : lv_has ls 2 [(0, .ref h0), (1, .int n1)] := hl
  refine lv_aload_n hx hb dX12_price_0 rfl (lv_at hl 0 rfl) ?_
  refine pq_get (own := RX12) (ci := 12) (C := RX12) (T := TX12) (N := 17) (k := 7) (v := .ref q61) hx hb hpp pi12 rfl hown hG hW 0 rfl E_h0 5 rfl (by decide) pp145 dX12_price_1 ?_
  refine lv_iload_n hx hb dX12_price_4 rfl (lv_at hl 1 rfl) ?_
  refine pq_calli hW [1] [0] (by decide) rfl rfl (fun f9 hw9 hC9 => va_runV (C := RX5) (As := [.int n1]) (rest := []) ⟨hx, hb, hml, hown, hts⟩ (c_X5_priceOf l D cy _ L f9 q61 F_q61 n1 hC9 E_q61) (cwV 1 hts (pp_gV pp159 pp158 pp160 pp161 pp151) rfl rfl rfl pd_X5_priceOf ⟨Nat.le_of_ble_eq_true rfl, Nat.le_of_ble_eq_true rfl⟩) (pq_preV hG hw9 hC9 (j := 0) rfl rfl) rfl rfl hl.1 rfl (lv_room (Nat.le_of_ble_eq_true rfl)) dX12_price_5 ⟨Nat.le_of_ble_eq_true rfl, Nat.le_of_ble_eq_true rfl⟩) (fun r cs1 H locs hP hW => ?_)
  obtain ⟨rfl, rfl⟩ := hP
  have hW : pq_W D _ s.heap L f _ [(q61, .inr (5, F_q61)), (h0, .inr (12, F_h0))] H locs := hW
  exact pq_iret hx hb hr hlocks rfl (hW.pick (cs2 := []) [] (by decide) rfl) ⟨rfl, not_false, rfl⟩ dX12_price_8
theorem pz_X12_candidate_1 (n1 : Int32) (c1 : ¬ n1 < 0) (c2 : n1 < 0) : False := by
  have k0 : (0 : Int32).toInt = 0 := by decide
  simp only [Int32.lt_iff_toInt_lt, Int32.le_iff_toInt_le, ← Int32.toInt_inj] at c1 c2 ⊢
  omega
set_option maxHeartbeats 4000000 in
set_option maxRecDepth 100000 in
/-- TongueHouse.candidate on a new object -/
theorem c_X12_candidate (l : Launch) (D : va_G) (cy : Nat → ClassId) (sz : Nat) (L : List Nat) (f : Nat → va_E) {q1 q23 q28 q39 q48 q61 q100 q114 q115 : Nat} (h0 q27 : Nat) (F_h0 : List Value) (F_q27 : List Value) (n1 : Int32) (hC : pq_C L f [(h0, .inr (12, F_h0)), (q27, .inr (9, F_q27))]) (E_h0 : pq_E 17 F_h0 [(0, .ref q1), (1, .ref q23), (2, .ref q27), (5, .ref q39), (6, .ref q48), (7, .ref q61), (10, .ref q100), (11, .ref q114), (12, .ref q115), (15, .int 0)]) (E_q27 : pq_E 10 F_q27 [(0, .ref q28), (1, .int 0), (5, .int 0), (6, .int 0), (7, .int 0)]) : Met l yX12_candidate (Cond.code yX12_candidate cX12_candidate 2 (some .int) :: pp_ws) ({ frames := 0, cells := 0, slots := 0, locals := 0 }) (pw_Pc D cy [.ref h0, .int n1] sz L f) (pq_Qi D sz L f [h0, q27] (fun r cs1 => r = (-1) ∧ ¬ (False) ∧ cs1 = [])) 0 0 (pw_A L f sz) := by
  refine Met.ofW (cc := cX12_candidate) (maxL := 2) (ret := (some .int)) (by decide) rfl ?_
  intro p e s m args below meth c s₁ B hml hv
  obtain ⟨rfl, hsz, hG, hP, hD0⟩ := hv
  have hx := B.exec
  have hb := B.bytes
  have hr := B.returns
  have hts := atoms_spec (ws := Cond.code yX12_candidate cX12_candidate 2 (some .int) :: pp_ws) B.pre
  have hpp := fun (w : Cond) (h : w ∈ pp_ws) => hts w (List.mem_cons_of_mem _ h)
  have hown : s.vm.findClass RX12 = some m.cls := findClass_of_methodNamed B.named
  have hlocks := B.notSynchronized
  have hw := pw_start (cy := cy) hsz hP hD0
  have hW := pq_start (as := [h0, q27]) hw hC rfl
  have hl := lv_entry ([.ref h0, .int n1]) (n := 2) (Nat.le_of_ble_eq_true rfl)
  rw [lg_entry_eq]
  generalize (lg_sl ([.ref h0, .int n1]) ++ List.replicate (2 - (lg_sl ([.ref h0, .int n1])).length) Slot.unset).toArray = ls at hl ⊢
  have hl : lv_has ls 2 [(0, .ref h0), (1, .int n1)] := hl
  refine lv_aload_n hx hb dX12_candidate_0 rfl (lv_at hl 0 rfl) ?_
  refine pq_get (own := RX12) (ci := 12) (C := RX12) (T := TX12) (N := 17) (k := 2) (v := .ref q27) hx hb hpp pi12 rfl hown hG hW 0 rfl E_h0 2 rfl (by decide) pp108 dX12_candidate_1 ?_
  refine lv_iconst (v := 0) hx hb dX12_candidate_4 (by decide) ?_
  refine pq_put (own := RX12) (ci := 9) (C := RX9) (T := TX9) (N := 10) (kv' := [(0, .ref q28), (1, .int 0), (5, .int 0), (6, .int 0), (7, .int 0)]) hx hb hpp pi9 tyX9 tyX9_ok nmX9 rfl hown hG hW 1 rfl E_q27 1 (by decide) rfl rfl rfl rfl pp1 dX12_candidate_5 (fun F_q27 H locs hW E_q27 => ?_)
  have hW : pq_W D _ s.heap L f _ [(h0, .inr (12, F_h0)), (q27, .inr (9, F_q27))] H locs := hW
  refine lv_iload_n hx hb dX12_candidate_8 rfl (lv_at hl 1 rfl) ?_
  refine lv_if_lt (tgt := 20) hx hb dX12_candidate_9 (by decide) (fun c1 => ?_) (fun c1 => ?_)
  · refine lv_iconst (v := (-1)) hx hb dX12_candidate_20 (by decide) ?_
    exact pq_iret hx hb hr hlocks rfl (hW.pick (cs2 := []) [] (by decide) rfl) ⟨rfl, not_false, rfl⟩ dX12_candidate_21
  · refine lv_iload_n hx hb dX12_candidate_12 rfl (lv_at hl 1 rfl) ?_
    refine lv_aload_n hx hb dX12_candidate_13 rfl (lv_at hl 0 rfl) ?_
    refine pq_get (own := RX12) (ci := 12) (C := RX12) (T := TX12) (N := 17) (k := 15) (v := .int 0) hx hb hpp pi12 rfl hown hG hW 0 rfl E_h0 9 rfl (by decide) pp163 dX12_candidate_14 ?_
    refine lv_icmp_lt (tgt := 22) hx hb dX12_candidate_17 (by decide) (fun c2 => (pz_X12_candidate_1 n1 c1 c2).elim) (fun _ => ?_)
    refine lv_iconst (v := (-1)) hx hb dX12_candidate_20 (by decide) ?_
    exact pq_iret hx hb hr hlocks rfl (hW.pick (cs2 := []) [] (by decide) rfl) ⟨rfl, not_false, rfl⟩ dX12_candidate_21
theorem pz_X12_checkPlace_1 (n1 : Int32) (c1 : n1 < 0) : n1 < 0 ∨ 7 < n1 := by
  have k0 : (0 : Int32).toInt = 0 := by decide
  have k7 : (7 : Int32).toInt = 7 := by decide
  simp only [Int32.lt_iff_toInt_lt, Int32.le_iff_toInt_le, ← Int32.toInt_inj] at c1 ⊢
  omega
theorem pz_X12_checkPlace_2 (n1 : Int32) (c1 : ¬ n1 < 0) (c2 : n1 < 8) : ¬ (n1 < 0 ∨ 7 < n1) := by
  have k0 : (0 : Int32).toInt = 0 := by decide
  have k7 : (7 : Int32).toInt = 7 := by decide
  have k8 : (8 : Int32).toInt = 8 := by decide
  simp only [Int32.lt_iff_toInt_lt, Int32.le_iff_toInt_le, ← Int32.toInt_inj] at c1 c2 ⊢
  omega
theorem pz_X12_checkPlace_3 (n1 : Int32) (c1 : ¬ n1 < 0) (c2 : ¬ n1 < 8) : n1 < 0 ∨ 7 < n1 := by
  have k0 : (0 : Int32).toInt = 0 := by decide
  have k7 : (7 : Int32).toInt = 7 := by decide
  have k8 : (8 : Int32).toInt = 8 := by decide
  simp only [Int32.lt_iff_toInt_lt, Int32.le_iff_toInt_le, ← Int32.toInt_inj] at c1 c2 ⊢
  omega
set_option maxHeartbeats 4000000 in
set_option maxRecDepth 100000 in
/-- TongueHouse.checkPlace on a new object -/
theorem c_X12_checkPlace (l : Launch) (hst : l.stackTraces = false) (D : va_G) (cy : Nat → ClassId) (sa : Nat → Nat) (sz : Nat) (L : List Nat) (f : Nat → va_E) (n1 : Int32) (hC : pq_C L f []) : vx_Met l yX12_checkPlace (Cond.code yX12_checkPlace cX12_checkPlace 1 none :: pp_ws) ({ frames := 6, cells := 1, slots := 6, locals := 100 }) (px_Pc D cy sa [.int n1] sz L f) (pq_Qv D sz L f [] (fun cs1 => ¬ (n1 < 0 ∨ 7 < n1) ∧ cs1 = [])) (pq_T D sz L f [] (fun E9 cs1 => E9 = px_IAE ∧ (n1 < 0 ∨ 7 < n1) ∧ cs1 = [])) 1 6 (pw_A L f sz) := by
  refine vx_ofW (cc := cX12_checkPlace) (maxL := 1) (ret := none) (by decide) rfl ?_
  intro p e s m args below meth c s₁ B hml hno hv
  obtain ⟨rfl, hsz, hG, hX, hP, hD0⟩ := hv
  have hx := B.exec
  have hb := B.bytes
  have hr := B.returns
  have hts := atoms_spec (ws := Cond.code yX12_checkPlace cX12_checkPlace 1 none :: pp_ws) B.pre
  have hpp := fun (w : Cond) (h : w ∈ pp_ws) => hts w (List.mem_cons_of_mem _ h)
  have hown : s.vm.findClass RX12 = some m.cls := findClass_of_methodNamed B.named
  have hlocks := B.notSynchronized
  have hw := pw_start (cy := cy) hsz hP hD0
  have hW := pq_start (as := []) hw hC rfl
  have hl := lv_entry ([.int n1]) (n := 1) (Nat.le_of_ble_eq_true rfl)
  rw [lg_entry_eq]
  generalize (lg_sl ([.int n1]) ++ List.replicate (1 - (lg_sl ([.int n1])).length) Slot.unset).toArray = ls at hl ⊢
  have hl : lv_has ls 1 [(0, .int n1)] := hl
  refine lv_iload_n hx hb dX12_checkPlace_0 rfl (lv_at hl 0 rfl) ?_
  refine lv_if_lt (tgt := 10) hx hb dX12_checkPlace_1 (by decide) (fun c1 => ?_) (fun c1 => ?_)
  · exact px_throwIW (text := "no such place") (is := 364) hx hb hst hpp hown pp21 pp22 pi_at (by decide +kernel) hX (hW.pick (cs2 := []) [] (by decide) rfl) ⟨rfl, (pz_X12_checkPlace_1 n1 c1), rfl⟩ (hl.1.trans hml.symm) dX12_checkPlace_10 dX12_checkPlace_13 dX12_checkPlace_14 dX12_checkPlace_17 dX12_checkPlace_20 hno (Nat.le_of_ble_eq_true rfl) (Nat.le_of_ble_eq_true rfl) (Nat.le_of_ble_eq_true rfl) (Nat.le_of_ble_eq_true rfl) hlocks (Nat.le_of_ble_eq_true rfl) (Nat.le_of_ble_eq_true rfl)
  · refine lv_iload_n hx hb dX12_checkPlace_4 rfl (lv_at hl 0 rfl) ?_
    refine lv_bipush (v := 8) hx hb dX12_checkPlace_5 (by decide) ?_
    refine lv_icmp_lt (tgt := 21) hx hb dX12_checkPlace_7 (by decide) (fun c2 => ?_) (fun c2 => ?_)
    · exact px_vret hx hb hr hlocks hW ⟨(pz_X12_checkPlace_2 n1 c1 c2), rfl⟩ (Nat.le_of_ble_eq_true rfl) (Nat.le_of_ble_eq_true rfl) dX12_checkPlace_21
    · exact px_throwIW (text := "no such place") (is := 364) hx hb hst hpp hown pp21 pp22 pi_at (by decide +kernel) hX (hW.pick (cs2 := []) [] (by decide) rfl) ⟨rfl, (pz_X12_checkPlace_3 n1 c1 c2), rfl⟩ (hl.1.trans hml.symm) dX12_checkPlace_10 dX12_checkPlace_13 dX12_checkPlace_14 dX12_checkPlace_17 dX12_checkPlace_20 hno (Nat.le_of_ble_eq_true rfl) (Nat.le_of_ble_eq_true rfl) (Nat.le_of_ble_eq_true rfl) (Nat.le_of_ble_eq_true rfl) hlocks (Nat.le_of_ble_eq_true rfl) (Nat.le_of_ble_eq_true rfl)
theorem pz_X5_spell_1 (n1 : Int32) (c1 : ¬ n1 < 0) (c2 : n1 < 0) : False := by
  have k0 : (0 : Int32).toInt = 0 := by decide
  simp only [Int32.lt_iff_toInt_lt, Int32.le_iff_toInt_le, ← Int32.toInt_inj] at c1 c2 ⊢
  omega
set_option maxHeartbeats 4000000 in
set_option maxRecDepth 100000 in
/-- TongueHouse$Ranking.spell on a new object -/
theorem c_X5_spell (l : Launch) (D : va_G) (cy : Nat → ClassId) (sz : Nat) (L : List Nat) (f : Nat → va_E) (q61 : Nat) (F_q61 : List Value) (n1 : Int32) (p2 : Nat) (hC : pq_C L f [(q61, .inr (5, F_q61))]) (E_q61 : pq_E 19 F_q61 [(3, .int 0), (15, .int 0)]) : Met l yX5_spell (Cond.code yX5_spell cX5_spell 11 (some .int) :: pp_ws) ({ frames := 1, cells := 0, slots := 0, locals := 23 }) (pw_Pc D cy [.ref q61, .int n1, .ref p2] sz L f) (pq_Qi D sz L f [q61] (fun r cs1 => (r = (-1) ∧ cs1 = [(q61, .inr (5, F_q61))]))) 0 0 (pw_A L f sz) := by
  refine Met.ofW (cc := cX5_spell) (maxL := 11) (ret := (some .int)) (by decide) rfl ?_
  intro p e s m args below meth c s₁ B hml hv
  obtain ⟨rfl, hsz, hG, hP, hD0⟩ := hv
  have hx := B.exec
  have hb := B.bytes
  have hr := B.returns
  have hts := atoms_spec (ws := Cond.code yX5_spell cX5_spell 11 (some .int) :: pp_ws) B.pre
  have hpp := fun (w : Cond) (h : w ∈ pp_ws) => hts w (List.mem_cons_of_mem _ h)
  have hown : s.vm.findClass RX5 = some m.cls := findClass_of_methodNamed B.named
  have hlocks := B.notSynchronized
  have hw := pw_start (cy := cy) hsz hP hD0
  have hW := pq_start (as := [q61]) hw hC rfl
  have hl := lv_entry ([.ref q61, .int n1, .ref p2]) (n := 11) (Nat.le_of_ble_eq_true rfl)
  rw [lg_entry_eq]
  generalize (lg_sl ([.ref q61, .int n1, .ref p2]) ++ List.replicate (11 - (lg_sl ([.ref q61, .int n1, .ref p2])).length) Slot.unset).toArray = ls at hl ⊢
  have hl : lv_has ls 11 [(0, .ref q61), (1, .int n1), (2, .ref p2)] := hl
  refine lv_aload_n hx hb dX5_spell_0 rfl (lv_at hl 0 rfl) ?_
  refine pq_callv hW [0] [] (by decide) rfl rfl (fun f9 hw9 hC9 => va_runV (C := RX5) (As := []) (rest := []) ⟨hx, hb, hml, hown, hts⟩ (c_X5_rank l D cy _ L f9 q61 F_q61 hC9 E_q61) (cwV 0 hts (pp_gV pp154 pp153 pp155 pp156 pp151) rfl rfl rfl pd_X5_rank ⟨Nat.le_of_ble_eq_true rfl, Nat.le_of_ble_eq_true rfl⟩) (pq_preV hG hw9 hC9 (j := 0) rfl rfl) rfl rfl hl.1 rfl (lv_room (Nat.le_of_ble_eq_true rfl)) dX5_spell_1 ⟨Nat.le_of_ble_eq_true rfl, Nat.le_of_ble_eq_true rfl⟩) (fun cs1 H locs hP hW => ?_)
  obtain ⟨rfl⟩ := hP
  have hW : pq_W D _ s.heap L f _ [(q61, .inr (5, F_q61))] H locs := hW
  refine lv_iload_n hx hb dX5_spell_4 rfl (lv_at hl 1 rfl) ?_
  refine lv_if_lt (tgt := 16) hx hb dX5_spell_5 (by decide) (fun c1 => ?_) (fun c1 => ?_)
  · refine lv_iconst (v := (-1)) hx hb dX5_spell_16 (by decide) ?_
    exact pq_iret hx hb hr hlocks rfl hW ⟨rfl, rfl⟩ dX5_spell_17
  · refine lv_iload_n hx hb dX5_spell_8 rfl (lv_at hl 1 rfl) ?_
    refine lv_aload_n hx hb dX5_spell_9 rfl (lv_at hl 0 rfl) ?_
    refine pq_get (own := RX5) (ci := 5) (C := RX5) (T := TX5) (N := 19) (k := 15) (v := .int 0) hx hb hpp pi5 rfl hown hG hW 0 rfl E_q61 1 rfl (by decide) pp157 dX5_spell_10 ?_
    refine lv_icmp_lt (tgt := 18) hx hb dX5_spell_13 (by decide) (fun c2 => (pz_X5_spell_1 n1 c1 c2).elim) (fun _ => ?_)
    refine lv_iconst (v := (-1)) hx hb dX5_spell_16 (by decide) ?_
    exact pq_iret hx hb hr hlocks rfl hW ⟨rfl, rfl⟩ dX5_spell_17
