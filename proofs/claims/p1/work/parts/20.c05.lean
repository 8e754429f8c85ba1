theorem pz_X8_sizeOf_1 (n1 : Int32) (hz : ¬ n1 < 0) (hy : n1 < 5) : n1 = 0 ∨ n1 = 1 ∨ n1 = 2 ∨ n1 = 3 ∨ n1 = 4 := by
  have k0 : (0 : Int32).toInt = 0 := by decide
  have k1 : (1 : Int32).toInt = 1 := by decide
  have k2 : (2 : Int32).toInt = 2 := by decide
  have k3 : (3 : Int32).toInt = 3 := by decide
  have k4 : (4 : Int32).toInt = 4 := by decide
  have k5 : (5 : Int32).toInt = 5 := by decide
  simp only [Int32.lt_iff_toInt_lt, Int32.le_iff_toInt_le, ← Int32.toInt_inj] at hz hy ⊢
  omega
set_option maxHeartbeats 4000000 in
set_option maxRecDepth 100000 in
/-- TongueHouse$Store.sizeOf on a new object -/
theorem c_X8_sizeOf (l : Launch) (D : va_G) (cy : Nat → ClassId) (sz : Nat) (L : List Nat) (f : Nat → va_E) {q15 q21 : Nat} (q1 q8 q2 q4 q6 : Nat) (F_q1 : List Value) (F_q8 : List Value) (F_q2 : List Value) (F_q4 : List Value) (F_q6 : List Value) (n1 : Int32) (hz : ¬ n1 < 0) (hy : n1 < 5) (hC : pq_C L f [(q1, .inr (8, F_q1)), (q8, .inr (4, F_q8)), (q2, .inr (4, F_q2)), (q4, .inr (4, F_q4)), (q6, .inr (4, F_q6))]) (E_q1 : pq_E 21 F_q1 [(0, .ref q2), (1, .ref q4), (2, .ref q6), (3, .ref q8), (5, .int (-1)), (10, .ref q15), (13, .int 0), (17, .int 0), (18, .int 0), (19, .ref q21)]) (E_q8 : pq_E 2 F_q8 [(1, .int 0)]) (E_q2 : pq_E 2 F_q2 [(1, .int 0)]) (E_q4 : pq_E 2 F_q4 [(1, .int 0)]) (E_q6 : pq_E 2 F_q6 [(1, .int 0)]) : Met l yX8_sizeOf (Cond.code yX8_sizeOf cX8_sizeOf 2 (some .int) :: pp_ws) ({ frames := 0, cells := 0, slots := 0, locals := 0 }) (pw_Pc D cy [.ref q1, .int n1] sz L f) (pq_Qi D sz L f [q1, q8, q2, q4, q6] (fun r cs1 => (r = 0 ∧ cs1 = [(q1, .inr (8, F_q1)), (q8, .inr (4, F_q8)), (q2, .inr (4, F_q2)), (q4, .inr (4, F_q4)), (q6, .inr (4, F_q6))]))) 0 0 (pw_A L f sz) := by
  refine Met.ofW (cc := cX8_sizeOf) (maxL := 2) (ret := (some .int)) (by decide) rfl ?_
  intro p e s m args below meth c s₁ B hml hv
  obtain ⟨rfl, hsz, hG, hP, hD0⟩ := hv
  have hx := B.exec
  have hb := B.bytes
  have hr := B.returns
  have hts := atoms_spec (ws := Cond.code yX8_sizeOf cX8_sizeOf 2 (some .int) :: pp_ws) B.pre
  have hpp := fun (w : Cond) (h : w ∈ pp_ws) => hts w (List.mem_cons_of_mem _ h)
  have hown : s.vm.findClass RX8 = some m.cls := findClass_of_methodNamed B.named
  have hlocks := B.notSynchronized
  have hw := pw_start (cy := cy) hsz hP hD0
  have hW := pq_start (as := [q1, q8, q2, q4, q6]) hw hC rfl
  have hl := lv_entry ([.ref q1, .int n1]) (n := 2) (Nat.le_of_ble_eq_true rfl)
  rw [lg_entry_eq]
  generalize (lg_sl ([.ref q1, .int n1]) ++ List.replicate (2 - (lg_sl ([.ref q1, .int n1])).length) Slot.unset).toArray = ls at hl ⊢
  have hl : lv_has ls 2 [(0, .ref q1), (1, .int n1)] := hl
  refine lv_iload_n hx hb dX8_sizeOf_0 rfl (lv_at hl 1 rfl) ?_
  rcases (pz_X8_sizeOf_1 n1 hz hy) with rfl | rfl | rfl | rfl | rfl
  · refine lv_tableIn (tgt := 32) hx hb dX8_sizeOf_1 (by decide) (by decide) rfl (by decide) ?_
    refine lv_aload_n hx hb dX8_sizeOf_32 rfl (lv_at hl 0 rfl) ?_
    refine pq_get (own := RX8) (ci := 8) (C := RX8) (T := TX8) (N := 21) (k := 3) (v := .ref q8) hx hb hpp pi8 rfl hown hG hW 0 rfl E_q1 3 rfl (by decide) pp36 dX8_sizeOf_33 ?_
    refine pq_get (own := RX8) (ci := 4) (C := RX4) (T := TX4) (N := 2) (k := 1) (v := .int 0) hx hb hpp pi4 rfl hown hG hW 1 rfl E_q8 0 rfl (by decide) pp33 dX8_sizeOf_36 ?_
    exact pq_iret hx hb hr hlocks rfl hW ⟨rfl, rfl⟩ dX8_sizeOf_39
  · refine lv_tableIn (tgt := 40) hx hb dX8_sizeOf_1 (by decide) (by decide) rfl (by decide) ?_
    refine lv_aload_n hx hb dX8_sizeOf_40 rfl (lv_at hl 0 rfl) ?_
    refine pq_get (own := RX8) (ci := 8) (C := RX8) (T := TX8) (N := 21) (k := 0) (v := .ref q2) hx hb hpp pi8 rfl hown hG hW 0 rfl E_q1 0 rfl (by decide) pp32 dX8_sizeOf_41 ?_
    refine pq_get (own := RX8) (ci := 4) (C := RX4) (T := TX4) (N := 2) (k := 1) (v := .int 0) hx hb hpp pi4 rfl hown hG hW 2 rfl E_q2 0 rfl (by decide) pp33 dX8_sizeOf_44 ?_
    exact pq_iret hx hb hr hlocks rfl hW ⟨rfl, rfl⟩ dX8_sizeOf_47
  · refine lv_tableIn (tgt := 48) hx hb dX8_sizeOf_1 (by decide) (by decide) rfl (by decide) ?_
    refine lv_aload_n hx hb dX8_sizeOf_48 rfl (lv_at hl 0 rfl) ?_
    refine pq_get (own := RX8) (ci := 8) (C := RX8) (T := TX8) (N := 21) (k := 1) (v := .ref q4) hx hb hpp pi8 rfl hown hG hW 0 rfl E_q1 1 rfl (by decide) pp34 dX8_sizeOf_49 ?_
    refine pq_get (own := RX8) (ci := 4) (C := RX4) (T := TX4) (N := 2) (k := 1) (v := .int 0) hx hb hpp pi4 rfl hown hG hW 3 rfl E_q4 0 rfl (by decide) pp33 dX8_sizeOf_52 ?_
    exact pq_iret hx hb hr hlocks rfl hW ⟨rfl, rfl⟩ dX8_sizeOf_55
  · refine lv_tableIn (tgt := 56) hx hb dX8_sizeOf_1 (by decide) (by decide) rfl (by decide) ?_
    refine lv_aload_n hx hb dX8_sizeOf_56 rfl (lv_at hl 0 rfl) ?_
    refine pq_get (own := RX8) (ci := 8) (C := RX8) (T := TX8) (N := 21) (k := 2) (v := .ref q6) hx hb hpp pi8 rfl hown hG hW 0 rfl E_q1 2 rfl (by decide) pp35 dX8_sizeOf_57 ?_
    refine pq_get (own := RX8) (ci := 4) (C := RX4) (T := TX4) (N := 2) (k := 1) (v := .int 0) hx hb hpp pi4 rfl hown hG hW 4 rfl E_q6 0 rfl (by decide) pp33 dX8_sizeOf_60 ?_
    exact pq_iret hx hb hr hlocks rfl hW ⟨rfl, rfl⟩ dX8_sizeOf_63
  · refine lv_tableOut (tgt := 64) hx hb dX8_sizeOf_1 (by decide) (by decide) ?_
    refine lv_aload_n hx hb dX8_sizeOf_64 rfl (lv_at hl 0 rfl) ?_
    refine pq_get (own := RX8) (ci := 8) (C := RX8) (T := TX8) (N := 21) (k := 13) (v := .int 0) hx hb hpp pi8 rfl hown hG hW 0 rfl E_q1 6 rfl (by decide) pp37 dX8_sizeOf_65 ?_
    exact pq_iret hx hb hr hlocks rfl hW ⟨rfl, rfl⟩ dX8_sizeOf_68
theorem pz_X12_count_1 (n2 : Int32) (c1 : n2 < 0) : n2 < 0 ∨ 7 < n2 := by
  have k0 : (0 : Int32).toInt = 0 := by decide
  have k7 : (7 : Int32).toInt = 7 := by decide
  simp only [Int32.lt_iff_toInt_lt, Int32.le_iff_toInt_le, ← Int32.toInt_inj] at c1 ⊢
  omega
theorem pz_X12_count_2 (n2 : Int32) (c1 : ¬ n2 < 0) (c2 : n2 ≤ 14) (c3 : n2 < 8) : n2 = 0 ∨ n2 = 1 ∨ n2 = 2 ∨ n2 = 3 ∨ n2 = 4 ∨ n2 = 5 ∨ n2 = 6 ∨ n2 = 7 := by
  have k0 : (0 : Int32).toInt = 0 := by decide
  have k1 : (1 : Int32).toInt = 1 := by decide
  have k2 : (2 : Int32).toInt = 2 := by decide
  have k3 : (3 : Int32).toInt = 3 := by decide
  have k4 : (4 : Int32).toInt = 4 := by decide
  have k5 : (5 : Int32).toInt = 5 := by decide
  have k6 : (6 : Int32).toInt = 6 := by decide
  have k7 : (7 : Int32).toInt = 7 := by decide
  have k8 : (8 : Int32).toInt = 8 := by decide
  have k14 : (14 : Int32).toInt = 14 := by decide
  simp only [Int32.lt_iff_toInt_lt, Int32.le_iff_toInt_le, ← Int32.toInt_inj] at c1 c2 c3 ⊢
  omega
theorem pz_X12_count_3 (n2 : Int32) (c1 : ¬ n2 < 0) (c2 : n2 ≤ 14) (c3 : n2 < 8) : ¬ (n2 < 0 ∨ 7 < n2) := by
  have k0 : (0 : Int32).toInt = 0 := by decide
  have k7 : (7 : Int32).toInt = 7 := by decide
  have k8 : (8 : Int32).toInt = 8 := by decide
  have k14 : (14 : Int32).toInt = 14 := by decide
  simp only [Int32.lt_iff_toInt_lt, Int32.le_iff_toInt_le, ← Int32.toInt_inj] at c1 c2 c3 ⊢
  omega
theorem pz_X12_count_4 (n2 : Int32) (c1 : ¬ n2 < 0) (c2 : n2 ≤ 14) (c3 : n2 < 8) : ¬ (n2 < 0 ∨ 7 < n2) := by
  have k0 : (0 : Int32).toInt = 0 := by decide
  have k7 : (7 : Int32).toInt = 7 := by decide
  have k8 : (8 : Int32).toInt = 8 := by decide
  have k14 : (14 : Int32).toInt = 14 := by decide
  simp only [Int32.lt_iff_toInt_lt, Int32.le_iff_toInt_le, ← Int32.toInt_inj] at c1 c2 c3 ⊢
  omega
theorem pz_X12_count_5 (n2 : Int32) (c1 : ¬ n2 < 0) (c2 : n2 ≤ 14) (c3 : n2 < 8) : ¬ (n2 < 0 ∨ 7 < n2) := by
  have k0 : (0 : Int32).toInt = 0 := by decide
  have k7 : (7 : Int32).toInt = 7 := by decide
  have k8 : (8 : Int32).toInt = 8 := by decide
  have k14 : (14 : Int32).toInt = 14 := by decide
  simp only [Int32.lt_iff_toInt_lt, Int32.le_iff_toInt_le, ← Int32.toInt_inj] at c1 c2 c3 ⊢
  omega
theorem pz_X12_count_6 (n2 : Int32) (c1 : ¬ n2 < 0) (c2 : n2 ≤ 14) (c3 : n2 < 8) : ¬ (n2 < 0 ∨ 7 < n2) := by
  have k0 : (0 : Int32).toInt = 0 := by decide
  have k7 : (7 : Int32).toInt = 7 := by decide
  have k8 : (8 : Int32).toInt = 8 := by decide
  have k14 : (14 : Int32).toInt = 14 := by decide
  simp only [Int32.lt_iff_toInt_lt, Int32.le_iff_toInt_le, ← Int32.toInt_inj] at c1 c2 c3 ⊢
  omega
theorem pz_X12_count_7 (n2 : Int32) (c1 : ¬ n2 < 0) (c2 : n2 ≤ 14) (c3 : n2 < 8) : ¬ (n2 < 0 ∨ 7 < n2) := by
  have k0 : (0 : Int32).toInt = 0 := by decide
  have k7 : (7 : Int32).toInt = 7 := by decide
  have k8 : (8 : Int32).toInt = 8 := by decide
  have k14 : (14 : Int32).toInt = 14 := by decide
  simp only [Int32.lt_iff_toInt_lt, Int32.le_iff_toInt_le, ← Int32.toInt_inj] at c1 c2 c3 ⊢
  omega
theorem pz_X12_count_8 (n2 : Int32) (c1 : ¬ n2 < 0) (c2 : n2 ≤ 14) (c3 : n2 < 8) : ¬ (n2 < 0 ∨ 7 < n2) := by
  have k0 : (0 : Int32).toInt = 0 := by decide
  have k7 : (7 : Int32).toInt = 7 := by decide
  have k8 : (8 : Int32).toInt = 8 := by decide
  have k14 : (14 : Int32).toInt = 14 := by decide
  simp only [Int32.lt_iff_toInt_lt, Int32.le_iff_toInt_le, ← Int32.toInt_inj] at c1 c2 c3 ⊢
  omega
theorem pz_X12_count_9 (n2 : Int32) (c1 : ¬ n2 < 0) (c2 : n2 ≤ 14) (c3 : n2 < 8) : ¬ (n2 < 0 ∨ 7 < n2) := by
  have k0 : (0 : Int32).toInt = 0 := by decide
  have k7 : (7 : Int32).toInt = 7 := by decide
  have k8 : (8 : Int32).toInt = 8 := by decide
  have k14 : (14 : Int32).toInt = 14 := by decide
  simp only [Int32.lt_iff_toInt_lt, Int32.le_iff_toInt_le, ← Int32.toInt_inj] at c1 c2 c3 ⊢
  omega
theorem pz_X12_count_10 (n2 : Int32) (c1 : ¬ n2 < 0) (c2 : n2 ≤ 14) (c3 : n2 < 8) : ¬ (n2 < 0 ∨ 7 < n2) := by
  have k0 : (0 : Int32).toInt = 0 := by decide
  have k7 : (7 : Int32).toInt = 7 := by decide
  have k8 : (8 : Int32).toInt = 8 := by decide
  have k14 : (14 : Int32).toInt = 14 := by decide
  simp only [Int32.lt_iff_toInt_lt, Int32.le_iff_toInt_le, ← Int32.toInt_inj] at c1 c2 c3 ⊢
  omega
theorem pz_X12_count_11 (n2 : Int32) (c1 : ¬ n2 < 0) (c2 : n2 ≤ 14) (c3 : ¬ n2 < 8) : n2 < 0 ∨ 7 < n2 := by
  have k0 : (0 : Int32).toInt = 0 := by decide
  have k7 : (7 : Int32).toInt = 7 := by decide
  have k8 : (8 : Int32).toInt = 8 := by decide
  have k14 : (14 : Int32).toInt = 14 := by decide
  simp only [Int32.lt_iff_toInt_lt, Int32.le_iff_toInt_le, ← Int32.toInt_inj] at c1 c2 c3 ⊢
  omega
theorem pz_X12_count_12 (n2 : Int32) (c1 : ¬ n2 < 0) (c2 : ¬ n2 ≤ 14) : n2 < 0 ∨ 7 < n2 := by
  have k0 : (0 : Int32).toInt = 0 := by decide
  have k7 : (7 : Int32).toInt = 7 := by decide
  have k14 : (14 : Int32).toInt = 14 := by decide
  simp only [Int32.lt_iff_toInt_lt, Int32.le_iff_toInt_le, ← Int32.toInt_inj] at c1 c2 ⊢
  omega
set_option maxHeartbeats 4000000 in
set_option maxRecDepth 100000 in
/-- TongueHouse.count on a new object -/
theorem c_X12_count (l : Launch) (hst : l.stackTraces = false) (D : va_G) (cy : Nat → ClassId) (sa : Nat → Nat) (sz : Nat) (L : List Nat) (f : Nat → va_E) {q15 q21 q23 q27 q39 q61 q114 q115 : Nat} (h0 q1 q8 q2 q4 q6 q48 q100 : Nat) (F_h0 : List Value) (F_q1 : List Value) (F_q8 : List Value) (F_q2 : List Value) (F_q4 : List Value) (F_q6 : List Value) (F_q48 : List Value) (F_q100 : List Value) (n1 : Int32) (n2 : Int32) (hC : pq_C L f [(h0, .inr (12, F_h0)), (q1, .inr (8, F_q1)), (q8, .inr (4, F_q8)), (q2, .inr (4, F_q2)), (q4, .inr (4, F_q4)), (q6, .inr (4, F_q6)), (q48, .inr (0, F_q48)), (q100, .inr (1, F_q100))]) (E_h0 : pq_E 17 F_h0 [(0, .ref q1), (1, .ref q23), (2, .ref q27), (5, .ref q39), (6, .ref q48), (7, .ref q61), (10, .ref q100), (11, .ref q114), (12, .ref q115), (15, .int 0)]) (E_q1 : pq_E 21 F_q1 [(0, .ref q2), (1, .ref q4), (2, .ref q6), (3, .ref q8), (5, .int (-1)), (10, .ref q15), (13, .int 0), (17, .int 0), (18, .int 0), (19, .ref q21)]) (E_q8 : pq_E 2 F_q8 [(1, .int 0)]) (E_q2 : pq_E 2 F_q2 [(1, .int 0)]) (E_q4 : pq_E 2 F_q4 [(1, .int 0)]) (E_q6 : pq_E 2 F_q6 [(1, .int 0)]) (E_q48 : pq_E 22 F_q48 [(3, .int 0), (6, .int 0)]) (E_q100 : pq_E 19 F_q100 [(2, .int 0), (4, .int 0), (9, .int 0), (14, .int 0)]) : vx_Met l yX12_count (Cond.code yX12_count cX12_count 3 (some .int) :: pp_ws) ({ frames := 7, cells := 1, slots := 6, locals := 121 }) (px_Pc D cy sa [.ref h0, .int n1, .int n2] sz L f) (pq_Qi D sz L f [h0, q1, q8, q2, q4, q6, q48, q100] (fun r cs1 => r = 0 ∧ ¬ (n2 < 0 ∨ 7 < n2) ∧ cs1 = [])) (pq_T D sz L f [h0, q1, q8, q2, q4, q6, q48, q100] (fun E9 cs1 => E9 = px_IAE ∧ (n2 < 0 ∨ 7 < n2) ∧ cs1 = [])) 1 6 (pw_A L f sz) := by
  refine vx_ofW (cc := cX12_count) (maxL := 3) (ret := (some .int)) (by decide) rfl ?_
  intro p e s m args below meth c s₁ B hml hno hv
  obtain ⟨rfl, hsz, hG, hX, hP, hD0⟩ := hv
  have hx := B.exec
  have hb := B.bytes
  have hr := B.returns
  have hts := atoms_spec (ws := Cond.code yX12_count cX12_count 3 (some .int) :: pp_ws) B.pre
  have hpp := fun (w : Cond) (h : w ∈ pp_ws) => hts w (List.mem_cons_of_mem _ h)
  have hown : s.vm.findClass RX12 = some m.cls := findClass_of_methodNamed B.named
  have hlocks := B.notSynchronized
  have hw := pw_start (cy := cy) hsz hP hD0
  have hW := pq_start (as := [h0, q1, q8, q2, q4, q6, q48, q100]) hw hC rfl
  have hl := lv_entry ([.ref h0, .int n1, .int n2]) (n := 3) (Nat.le_of_ble_eq_true rfl)
  rw [lg_entry_eq]
  generalize (lg_sl ([.ref h0, .int n1, .int n2]) ++ List.replicate (3 - (lg_sl ([.ref h0, .int n1, .int n2])).length) Slot.unset).toArray = ls at hl ⊢
  have hl : lv_has ls 3 [(0, .ref h0), (1, .int n1), (2, .int n2)] := hl
  refine lv_iload_n hx hb dX12_count_0 rfl (lv_at hl 2 rfl) ?_
  refine lv_if_lt (tgt := 10) hx hb dX12_count_1 (by decide) (fun c1 => ?_) (fun c1 => ?_)
  · exact px_throwI (text := "no such what") (is := 143) hx hb hst hpp hown pp21 pp22 pi_at (by decide +kernel) hX (hW.pick (cs2 := []) [] (by decide) rfl) ⟨rfl, (pz_X12_count_1 n2 c1), rfl⟩ (hl.1.trans hml.symm) dX12_count_10 dX12_count_13 dX12_count_14 dX12_count_16 dX12_count_19 hno (Nat.le_of_ble_eq_true rfl) (Nat.le_of_ble_eq_true rfl) (Nat.le_of_ble_eq_true rfl) (Nat.le_of_ble_eq_true rfl) hlocks (Nat.le_of_ble_eq_true rfl) (Nat.le_of_ble_eq_true rfl)
  · refine lv_iload_n hx hb dX12_count_4 rfl (lv_at hl 2 rfl) ?_
    refine lv_bipush (v := 14) hx hb dX12_count_5 (by decide) ?_
    refine lv_icmp_le (tgt := 20) hx hb dX12_count_7 (by decide) (fun c2 => ?_) (fun c2 => ?_)
    · refine lv_iload_n hx hb dX12_count_20 rfl (lv_at hl 2 rfl) ?_
      refine lv_bipush (v := 8) hx hb dX12_count_21 (by decide) ?_
      refine lv_icmp_lt (tgt := 36) hx hb dX12_count_23 (by decide) (fun c3 => ?_) (fun c3 => ?_)
      · refine lv_iload_n hx hb dX12_count_36 rfl (lv_at hl 2 rfl) ?_
        rcases (pz_X12_count_2 n2 c1 c2 c3) with rfl | rfl | rfl | rfl | rfl | rfl | rfl | rfl
        · refine lv_tableOut (tgt := 88) hx hb dX12_count_37 (by decide) (by decide) ?_
          refine lv_aload_n hx hb dX12_count_88 rfl (lv_at hl 0 rfl) ?_
          refine pq_get (own := RX12) (ci := 12) (C := RX12) (T := TX12) (N := 17) (k := 0) (v := .ref q1) hx hb hpp pi12 rfl hown hG hW 0 rfl E_h0 0 rfl (by decide) pp110 dX12_count_89 ?_
          refine lv_iload_n hx hb dX12_count_92 rfl (lv_at hl 2 rfl) ?_
          refine pq_calli hW [1, 2, 3, 4, 5] [0, 6, 7] (by decide) rfl rfl (fun f9 hw9 hC9 => va_runV (C := RX8) (As := [.int 0]) (rest := []) ⟨hx, hb, hml, hown, hts⟩ (c_X8_sizeOf l D cy _ L f9 q1 q8 q2 q4 q6 F_q1 F_q8 F_q2 F_q4 F_q6 0 (by decide) (by decide) hC9 E_q1 E_q8 E_q2 E_q4 E_q6) (cwV 1 hts (pp_gV pp199 pp198 pp200 pp201 pp49) rfl rfl rfl pd_X8_sizeOf ⟨Nat.le_of_ble_eq_true rfl, Nat.le_of_ble_eq_true rfl⟩) (pq_preV hG hw9 hC9 (j := 0) rfl rfl) rfl rfl hl.1 rfl (lv_room (Nat.le_of_ble_eq_true rfl)) dX12_count_93 ⟨Nat.le_of_ble_eq_true rfl, Nat.le_of_ble_eq_true rfl⟩) (fun r cs1 H locs hP hW => ?_)
          obtain ⟨rfl, rfl⟩ := hP
          have hW : pq_W D _ s.heap L f _ [(q1, .inr (8, F_q1)), (q8, .inr (4, F_q8)), (q2, .inr (4, F_q2)), (q4, .inr (4, F_q4)), (q6, .inr (4, F_q6)), (h0, .inr (12, F_h0)), (q48, .inr (0, F_q48)), (q100, .inr (1, F_q100))] H locs := hW
          exact px_iret hx hb hr hlocks rfl (hW.pick (cs2 := []) [] (by decide) rfl) ⟨rfl, (pz_X12_count_3 0 c1 c2 c3), rfl⟩ (Nat.le_of_ble_eq_true rfl) (Nat.le_of_ble_eq_true rfl) dX12_count_96
        · refine lv_tableOut (tgt := 88) hx hb dX12_count_37 (by decide) (by decide) ?_
          refine lv_aload_n hx hb dX12_count_88 rfl (lv_at hl 0 rfl) ?_
          refine pq_get (own := RX12) (ci := 12) (C := RX12) (T := TX12) (N := 17) (k := 0) (v := .ref q1) hx hb hpp pi12 rfl hown hG hW 0 rfl E_h0 0 rfl (by decide) pp110 dX12_count_89 ?_
          refine lv_iload_n hx hb dX12_count_92 rfl (lv_at hl 2 rfl) ?_
          refine pq_calli hW [1, 2, 3, 4, 5] [0, 6, 7] (by decide) rfl rfl (fun f9 hw9 hC9 => va_runV (C := RX8) (As := [.int 1]) (rest := []) ⟨hx, hb, hml, hown, hts⟩ (c_X8_sizeOf l D cy _ L f9 q1 q8 q2 q4 q6 F_q1 F_q8 F_q2 F_q4 F_q6 1 (by decide) (by decide) hC9 E_q1 E_q8 E_q2 E_q4 E_q6) (cwV 1 hts (pp_gV pp199 pp198 pp200 pp201 pp49) rfl rfl rfl pd_X8_sizeOf ⟨Nat.le_of_ble_eq_true rfl, Nat.le_of_ble_eq_true rfl⟩) (pq_preV hG hw9 hC9 (j := 0) rfl rfl) rfl rfl hl.1 rfl (lv_room (Nat.le_of_ble_eq_true rfl)) dX12_count_93 ⟨Nat.le_of_ble_eq_true rfl, Nat.le_of_ble_eq_true rfl⟩) (fun r cs1 H locs hP hW => ?_)
          obtain ⟨rfl, rfl⟩ := hP
          have hW : pq_W D _ s.heap L f _ [(q1, .inr (8, F_q1)), (q8, .inr (4, F_q8)), (q2, .inr (4, F_q2)), (q4, .inr (4, F_q4)), (q6, .inr (4, F_q6)), (h0, .inr (12, F_h0)), (q48, .inr (0, F_q48)), (q100, .inr (1, F_q100))] H locs := hW
          exact px_iret hx hb hr hlocks rfl (hW.pick (cs2 := []) [] (by decide) rfl) ⟨rfl, (pz_X12_count_4 1 c1 c2 c3), rfl⟩ (Nat.le_of_ble_eq_true rfl) (Nat.le_of_ble_eq_true rfl) dX12_count_96
        · refine lv_tableOut (tgt := 88) hx hb dX12_count_37 (by decide) (by decide) ?_
          refine lv_aload_n hx hb dX12_count_88 rfl (lv_at hl 0 rfl) ?_
          refine pq_get (own := RX12) (ci := 12) (C := RX12) (T := TX12) (N := 17) (k := 0) (v := .ref q1) hx hb hpp pi12 rfl hown hG hW 0 rfl E_h0 0 rfl (by decide) pp110 dX12_count_89 ?_
          refine lv_iload_n hx hb dX12_count_92 rfl (lv_at hl 2 rfl) ?_
          refine pq_calli hW [1, 2, 3, 4, 5] [0, 6, 7] (by decide) rfl rfl (fun f9 hw9 hC9 => va_runV (C := RX8) (As := [.int 2]) (rest := []) ⟨hx, hb, hml, hown, hts⟩ (c_X8_sizeOf l D cy _ L f9 q1 q8 q2 q4 q6 F_q1 F_q8 F_q2 F_q4 F_q6 2 (by decide) (by decide) hC9 E_q1 E_q8 E_q2 E_q4 E_q6) (cwV 1 hts (pp_gV pp199 pp198 pp200 pp201 pp49) rfl rfl rfl pd_X8_sizeOf ⟨Nat.le_of_ble_eq_true rfl, Nat.le_of_ble_eq_true rfl⟩) (pq_preV hG hw9 hC9 (j := 0) rfl rfl) rfl rfl hl.1 rfl (lv_room (Nat.le_of_ble_eq_true rfl)) dX12_count_93 ⟨Nat.le_of_ble_eq_true rfl, Nat.le_of_ble_eq_true rfl⟩) (fun r cs1 H locs hP hW => ?_)
          obtain ⟨rfl, rfl⟩ := hP
          have hW : pq_W D _ s.heap L f _ [(q1, .inr (8, F_q1)), (q8, .inr (4, F_q8)), (q2, .inr (4, F_q2)), (q4, .inr (4, F_q4)), (q6, .inr (4, F_q6)), (h0, .inr (12, F_h0)), (q48, .inr (0, F_q48)), (q100, .inr (1, F_q100))] H locs := hW
          exact px_iret hx hb hr hlocks rfl (hW.pick (cs2 := []) [] (by decide) rfl) ⟨rfl, (pz_X12_count_5 2 c1 c2 c3), rfl⟩ (Nat.le_of_ble_eq_true rfl) (Nat.le_of_ble_eq_true rfl) dX12_count_96
        · refine lv_tableOut (tgt := 88) hx hb dX12_count_37 (by decide) (by decide) ?_
          refine lv_aload_n hx hb dX12_count_88 rfl (lv_at hl 0 rfl) ?_
          refine pq_get (own := RX12) (ci := 12) (C := RX12) (T := TX12) (N := 17) (k := 0) (v := .ref q1) hx hb hpp pi12 rfl hown hG hW 0 rfl E_h0 0 rfl (by decide) pp110 dX12_count_89 ?_
          refine lv_iload_n hx hb dX12_count_92 rfl (lv_at hl 2 rfl) ?_
          refine pq_calli hW [1, 2, 3, 4, 5] [0, 6, 7] (by decide) rfl rfl (fun f9 hw9 hC9 => va_runV (C := RX8) (As := [.int 3]) (rest := []) ⟨hx, hb, hml, hown, hts⟩ (c_X8_sizeOf l D cy _ L f9 q1 q8 q2 q4 q6 F_q1 F_q8 F_q2 F_q4 F_q6 3 (by decide) (by decide) hC9 E_q1 E_q8 E_q2 E_q4 E_q6) (cwV 1 hts (pp_gV pp199 pp198 pp200 pp201 pp49) rfl rfl rfl pd_X8_sizeOf ⟨Nat.le_of_ble_eq_true rfl, Nat.le_of_ble_eq_true rfl⟩) (pq_preV hG hw9 hC9 (j := 0) rfl rfl) rfl rfl hl.1 rfl (lv_room (Nat.le_of_ble_eq_true rfl)) dX12_count_93 ⟨Nat.le_of_ble_eq_true rfl, Nat.le_of_ble_eq_true rfl⟩) (fun r cs1 H locs hP hW => ?_)
          obtain ⟨rfl, rfl⟩ := hP
          have hW : pq_W D _ s.heap L f _ [(q1, .inr (8, F_q1)), (q8, .inr (4, F_q8)), (q2, .inr (4, F_q2)), (q4, .inr (4, F_q4)), (q6, .inr (4, F_q6)), (h0, .inr (12, F_h0)), (q48, .inr (0, F_q48)), (q100, .inr (1, F_q100))] H locs := hW
          exact px_iret hx hb hr hlocks rfl (hW.pick (cs2 := []) [] (by decide) rfl) ⟨rfl, (pz_X12_count_6 3 c1 c2 c3), rfl⟩ (Nat.le_of_ble_eq_true rfl) (Nat.le_of_ble_eq_true rfl) dX12_count_96
        · refine lv_tableOut (tgt := 88) hx hb dX12_count_37 (by decide) (by decide) ?_
          refine lv_aload_n hx hb dX12_count_88 rfl (lv_at hl 0 rfl) ?_
          refine pq_get (own := RX12) (ci := 12) (C := RX12) (T := TX12) (N := 17) (k := 0) (v := .ref q1) hx hb hpp pi12 rfl hown hG hW 0 rfl E_h0 0 rfl (by decide) pp110 dX12_count_89 ?_
          refine lv_iload_n hx hb dX12_count_92 rfl (lv_at hl 2 rfl) ?_
          refine pq_calli hW [1, 2, 3, 4, 5] [0, 6, 7] (by decide) rfl rfl (fun f9 hw9 hC9 => va_runV (C := RX8) (As := [.int 4]) (rest := []) ⟨hx, hb, hml, hown, hts⟩ (c_X8_sizeOf l D cy _ L f9 q1 q8 q2 q4 q6 F_q1 F_q8 F_q2 F_q4 F_q6 4 (by decide) (by decide) hC9 E_q1 E_q8 E_q2 E_q4 E_q6) (cwV 1 hts (pp_gV pp199 pp198 pp200 pp201 pp49) rfl rfl rfl pd_X8_sizeOf ⟨Nat.le_of_ble_eq_true rfl, Nat.le_of_ble_eq_true rfl⟩) (pq_preV hG hw9 hC9 (j := 0) rfl rfl) rfl rfl hl.1 rfl (lv_room (Nat.le_of_ble_eq_true rfl)) dX12_count_93 ⟨Nat.le_of_ble_eq_true rfl, Nat.le_of_ble_eq_true rfl⟩) (fun r cs1 H locs hP hW => ?_)
          obtain ⟨rfl, rfl⟩ := hP
          have hW : pq_W D _ s.heap L f _ [(q1, .inr (8, F_q1)), (q8, .inr (4, F_q8)), (q2, .inr (4, F_q2)), (q4, .inr (4, F_q4)), (q6, .inr (4, F_q6)), (h0, .inr (12, F_h0)), (q48, .inr (0, F_q48)), (q100, .inr (1, F_q100))] H locs := hW
          exact px_iret hx hb hr hlocks rfl (hW.pick (cs2 := []) [] (by decide) rfl) ⟨rfl, (pz_X12_count_7 4 c1 c2 c3), rfl⟩ (Nat.le_of_ble_eq_true rfl) (Nat.le_of_ble_eq_true rfl) dX12_count_96
        · refine lv_tableIn (tgt := 64) hx hb dX12_count_37 (by decide) (by decide) rfl (by decide) ?_
          refine lv_aload_n hx hb dX12_count_64 rfl (lv_at hl 0 rfl) ?_
          refine pq_get (own := RX12) (ci := 12) (C := RX12) (T := TX12) (N := 17) (k := 6) (v := .ref q48) hx hb hpp pi12 rfl hown hG hW 0 rfl E_h0 4 rfl (by decide) pp202 dX12_count_65 ?_
          refine pq_get (own := RX12) (ci := 0) (C := RX0) (T := TX0) (N := 22) (k := 3) (v := .int 0) hx hb hpp pi0 rfl hown hG hW 6 rfl E_q48 0 rfl (by decide) pp203 dX12_count_68 ?_
          exact px_iret hx hb hr hlocks rfl (hW.pick (cs2 := []) [] (by decide) rfl) ⟨rfl, (pz_X12_count_8 5 c1 c2 c3), rfl⟩ (Nat.le_of_ble_eq_true rfl) (Nat.le_of_ble_eq_true rfl) dX12_count_71
        · refine lv_tableIn (tgt := 72) hx hb dX12_count_37 (by decide) (by decide) rfl (by decide) ?_
          refine lv_aload_n hx hb dX12_count_72 rfl (lv_at hl 0 rfl) ?_
          refine pq_get (own := RX12) (ci := 12) (C := RX12) (T := TX12) (N := 17) (k := 6) (v := .ref q48) hx hb hpp pi12 rfl hown hG hW 0 rfl E_h0 4 rfl (by decide) pp202 dX12_count_73 ?_
          refine pq_get (own := RX12) (ci := 0) (C := RX0) (T := TX0) (N := 22) (k := 6) (v := .int 0) hx hb hpp pi0 rfl hown hG hW 6 rfl E_q48 1 rfl (by decide) pp204 dX12_count_76 ?_
          exact px_iret hx hb hr hlocks rfl (hW.pick (cs2 := []) [] (by decide) rfl) ⟨rfl, (pz_X12_count_9 6 c1 c2 c3), rfl⟩ (Nat.le_of_ble_eq_true rfl) (Nat.le_of_ble_eq_true rfl) dX12_count_79
        · refine lv_tableIn (tgt := 80) hx hb dX12_count_37 (by decide) (by decide) rfl (by decide) ?_
          refine lv_aload_n hx hb dX12_count_80 rfl (lv_at hl 0 rfl) ?_
          refine pq_get (own := RX12) (ci := 12) (C := RX12) (T := TX12) (N := 17) (k := 10) (v := .ref q100) hx hb hpp pi12 rfl hown hG hW 0 rfl E_h0 6 rfl (by decide) pp125 dX12_count_81 ?_
          refine pq_get (own := RX12) (ci := 1) (C := RX1) (T := TX1) (N := 19) (k := 9) (v := .int 0) hx hb hpp pi1 rfl hown hG hW 7 rfl E_q100 2 rfl (by decide) pp205 dX12_count_84 ?_
          exact px_iret hx hb hr hlocks rfl (hW.pick (cs2 := []) [] (by decide) rfl) ⟨rfl, (pz_X12_count_10 7 c1 c2 c3), rfl⟩ (Nat.le_of_ble_eq_true rfl) (Nat.le_of_ble_eq_true rfl) dX12_count_87
      · refine lv_aload_n hx hb dX12_count_26 rfl (lv_at hl 0 rfl) ?_
        refine lv_iload_n hx hb dX12_count_27 rfl (lv_at hl 1 rfl) ?_
        refine pq_xcallN hW [0, 1, 2] [3, 4, 5, 6, 7] (by decide) rfl rfl (fun f9 hw9 hC9 => vx_runV (C := RX12) (As := [.int n1]) (rest := []) ⟨hx, hb, hml, hown, hts⟩ (c_X12_tongueAt l hst D cy sa _ L f9 h0 q1 q8 F_h0 F_q1 F_q8 n1 hC9 E_h0 E_q1 E_q8) (cwV 1 hts (pp_gV pp120 pp119 pp121 pp122 pp123) rfl rfl rfl pd_X12_tongueAt ⟨Nat.le_of_ble_eq_true rfl, Nat.le_of_ble_eq_true rfl⟩) (pq_xpreV hG hX hw9 hC9 (j := 0) rfl rfl) rfl rfl hl.1 rfl (lv_room (Nat.le_of_ble_eq_true rfl)) dX12_count_28 ⟨Nat.le_of_ble_eq_true rfl, Nat.le_of_ble_eq_true rfl⟩) (fun E9 ce q9 cs1 H locs hP hW hce hcv hcl => ?_)
        obtain ⟨rfl, hq, rfl⟩ := hP
        exact pq_out hno hlocks hce hcv hcl (hW.pick (cs2 := []) [] (by decide) rfl) ⟨rfl, (pz_X12_count_11 n2 c1 c2 c3), rfl⟩ (Nat.le_of_ble_eq_true rfl) (Nat.le_of_ble_eq_true rfl)
    · exact px_throwI (text := "no such what") (is := 143) hx hb hst hpp hown pp21 pp22 pi_at (by decide +kernel) hX (hW.pick (cs2 := []) [] (by decide) rfl) ⟨rfl, (pz_X12_count_12 n2 c1 c2), rfl⟩ (hl.1.trans hml.symm) dX12_count_10 dX12_count_13 dX12_count_14 dX12_count_16 dX12_count_19 hno (Nat.le_of_ble_eq_true rfl) (Nat.le_of_ble_eq_true rfl) (Nat.le_of_ble_eq_true rfl) (Nat.le_of_ble_eq_true rfl) hlocks (Nat.le_of_ble_eq_true rfl) (Nat.le_of_ble_eq_true rfl)
set_option maxHeartbeats 4000000 in
set_option maxRecDepth 100000 in
/-- TongueHouse.sounds on a new object -/
theorem c_X12_sounds (l : Launch) (hst : l.stackTraces = false) (D : va_G) (cy : Nat → ClassId) (sa : Nat → Nat) (sz : Nat) (L : List Nat) (f : Nat → va_E) {q2 q4 q6 q15 q21 q23 q27 q39 q48 q61 q100 q114 q115 : Nat} (h0 q1 q8 : Nat) (F_h0 : List Value) (F_q1 : List Value) (F_q8 : List Value) (n1 : Int32) (hC : pq_C L f [(h0, .inr (12, F_h0)), (q1, .inr (8, F_q1)), (q8, .inr (4, F_q8))]) (E_h0 : pq_E 17 F_h0 [(0, .ref q1), (1, .ref q23), (2, .ref q27), (5, .ref q39), (6, .ref q48), (7, .ref q61), (10, .ref q100), (11, .ref q114), (12, .ref q115), (15, .int 0)]) (E_q1 : pq_E 21 F_q1 [(0, .ref q2), (1, .ref q4), (2, .ref q6), (3, .ref q8), (5, .int (-1)), (10, .ref q15), (13, .int 0), (17, .int 0), (18, .int 0), (19, .ref q21)]) (E_q8 : pq_E 2 F_q8 [(1, .int 0)]) : vx_Met l yX12_sounds (Cond.code yX12_sounds cX12_sounds 4 (some .int) :: pp_ws) ({ frames := 7, cells := 1, slots := 6, locals := 121 }) (px_Pc D cy sa [.ref h0, .int n1] sz L f) (fun _ _ _ _ => False) (pq_T D sz L f [h0, q1, q8] (fun E9 cs1 => E9 = px_IAE ∧ (True) ∧ cs1 = [])) 1 6 (pw_A L f sz) := by
  refine vx_ofW (cc := cX12_sounds) (maxL := 4) (ret := (some .int)) (by decide) rfl ?_
  intro p e s m args below meth c s₁ B hml hno hv
  obtain ⟨rfl, hsz, hG, hX, hP, hD0⟩ := hv
  have hx := B.exec
  have hb := B.bytes
  have hr := B.returns
  have hts := atoms_spec (ws := Cond.code yX12_sounds cX12_sounds 4 (some .int) :: pp_ws) B.pre
  have hpp := fun (w : Cond) (h : w ∈ pp_ws) => hts w (List.mem_cons_of_mem _ h)
  have hown : s.vm.findClass RX12 = some m.cls := findClass_of_methodNamed B.named
  have hlocks := B.notSynchronized
  have hw := pw_start (cy := cy) hsz hP hD0
  have hW := pq_start (as := [h0, q1, q8]) hw hC rfl
  have hl := lv_entry ([.ref h0, .int n1]) (n := 4) (Nat.le_of_ble_eq_true rfl)
  rw [lg_entry_eq]
  generalize (lg_sl ([.ref h0, .int n1]) ++ List.replicate (4 - (lg_sl ([.ref h0, .int n1])).length) Slot.unset).toArray = ls at hl ⊢
  have hl : lv_has ls 4 [(0, .ref h0), (1, .int n1)] := hl
  refine lv_aload_n hx hb dX12_sounds_0 rfl (lv_at hl 0 rfl) ?_
  refine lv_iload_n hx hb dX12_sounds_1 rfl (lv_at hl 1 rfl) ?_
  refine pq_xcallN hW [0, 1, 2] [] (by decide) rfl rfl (fun f9 hw9 hC9 => vx_runV (C := RX12) (As := [.int n1]) (rest := []) ⟨hx, hb, hml, hown, hts⟩ (c_X12_tongueAt l hst D cy sa _ L f9 h0 q1 q8 F_h0 F_q1 F_q8 n1 hC9 E_h0 E_q1 E_q8) (cwV 1 hts (pp_gV pp120 pp119 pp121 pp122 pp123) rfl rfl rfl pd_X12_tongueAt ⟨Nat.le_of_ble_eq_true rfl, Nat.le_of_ble_eq_true rfl⟩) (pq_xpreV hG hX hw9 hC9 (j := 0) rfl rfl) rfl rfl hl.1 rfl (lv_room (Nat.le_of_ble_eq_true rfl)) dX12_sounds_2 ⟨Nat.le_of_ble_eq_true rfl, Nat.le_of_ble_eq_true rfl⟩) (fun E9 ce q9 cs1 H locs hP hW hce hcv hcl => ?_)
  obtain ⟨rfl, hq, rfl⟩ := hP
  exact pq_out hno hlocks hce hcv hcl (hW.pick (cs2 := []) [] (by decide) rfl) ⟨rfl, trivial, rfl⟩ (Nat.le_of_ble_eq_true rfl) (Nat.le_of_ble_eq_true rfl)
set_option maxHeartbeats 4000000 in
set_option maxRecDepth 100000 in
/-- TongueHouse.analyse on a new object -/
theorem c_X12_analyse (l : Launch) (hst : l.stackTraces = false) (D : va_G) (cy : Nat → ClassId) (sa : Nat → Nat) (sz : Nat) (L : List Nat) (f : Nat → va_E) {q2 q4 q6 q15 q21 q23 q27 q39 q48 q61 q100 q114 q115 : Nat} (h0 q1 q8 : Nat) (F_h0 : List Value) (F_q1 : List Value) (F_q8 : List Value) (n1 : Int32) (hC : pq_C L f [(h0, .inr (12, F_h0)), (q1, .inr (8, F_q1)), (q8, .inr (4, F_q8))]) (E_h0 : pq_E 17 F_h0 [(0, .ref q1), (1, .ref q23), (2, .ref q27), (5, .ref q39), (6, .ref q48), (7, .ref q61), (10, .ref q100), (11, .ref q114), (12, .ref q115), (15, .int 0)]) (E_q1 : pq_E 21 F_q1 [(0, .ref q2), (1, .ref q4), (2, .ref q6), (3, .ref q8), (5, .int (-1)), (10, .ref q15), (13, .int 0), (17, .int 0), (18, .int 0), (19, .ref q21)]) (E_q8 : pq_E 2 F_q8 [(1, .int 0)]) : vx_Met l yX12_analyse (Cond.code yX12_analyse cX12_analyse 4 (some .int) :: pp_ws) ({ frames := 7, cells := 1, slots := 6, locals := 121 }) (px_Pc D cy sa [.ref h0, .int n1] sz L f) (fun _ _ _ _ => False) (pq_T D sz L f [h0, q1, q8] (fun E9 cs1 => E9 = px_IAE ∧ (True) ∧ cs1 = [])) 1 6 (pw_A L f sz) := by
  refine vx_ofW (cc := cX12_analyse) (maxL := 4) (ret := (some .int)) (by decide) rfl ?_
  intro p e s m args below meth c s₁ B hml hno hv
  obtain ⟨rfl, hsz, hG, hX, hP, hD0⟩ := hv
  have hx := B.exec
  have hb := B.bytes
  have hr := B.returns
  have hts := atoms_spec (ws := Cond.code yX12_analyse cX12_analyse 4 (some .int) :: pp_ws) B.pre
  have hpp := fun (w : Cond) (h : w ∈ pp_ws) => hts w (List.mem_cons_of_mem _ h)
  have hown : s.vm.findClass RX12 = some m.cls := findClass_of_methodNamed B.named
  have hlocks := B.notSynchronized
  have hw := pw_start (cy := cy) hsz hP hD0
  have hW := pq_start (as := [h0, q1, q8]) hw hC rfl
  have hl := lv_entry ([.ref h0, .int n1]) (n := 4) (Nat.le_of_ble_eq_true rfl)
  rw [lg_entry_eq]
  generalize (lg_sl ([.ref h0, .int n1]) ++ List.replicate (4 - (lg_sl ([.ref h0, .int n1])).length) Slot.unset).toArray = ls at hl ⊢
  have hl : lv_has ls 4 [(0, .ref h0), (1, .int n1)] := hl
  refine lv_aload_n hx hb dX12_analyse_0 rfl (lv_at hl 0 rfl) ?_
  refine lv_iload_n hx hb dX12_analyse_1 rfl (lv_at hl 1 rfl) ?_
  refine pq_xcallN hW [0, 1, 2] [] (by decide) rfl rfl (fun f9 hw9 hC9 => vx_runV (C := RX12) (As := [.int n1]) (rest := []) ⟨hx, hb, hml, hown, hts⟩ (c_X12_tongueAt l hst D cy sa _ L f9 h0 q1 q8 F_h0 F_q1 F_q8 n1 hC9 E_h0 E_q1 E_q8) (cwV 1 hts (pp_gV pp120 pp119 pp121 pp122 pp123) rfl rfl rfl pd_X12_tongueAt ⟨Nat.le_of_ble_eq_true rfl, Nat.le_of_ble_eq_true rfl⟩) (pq_xpreV hG hX hw9 hC9 (j := 0) rfl rfl) rfl rfl hl.1 rfl (lv_room (Nat.le_of_ble_eq_true rfl)) dX12_analyse_2 ⟨Nat.le_of_ble_eq_true rfl, Nat.le_of_ble_eq_true rfl⟩) (fun E9 ce q9 cs1 H locs hP hW hce hcv hcl => ?_)
  obtain ⟨rfl, hq, rfl⟩ := hP
  exact pq_out hno hlocks hce hcv hcl (hW.pick (cs2 := []) [] (by decide) rfl) ⟨rfl, trivial, rfl⟩ (Nat.le_of_ble_eq_true rfl) (Nat.le_of_ble_eq_true rfl)
set_option maxHeartbeats 4000000 in
set_option maxRecDepth 100000 in
/-- TongueHouse.cell on a new object -/
theorem c_X12_cell (l : Launch) (hst : l.stackTraces = false) (D : va_G) (cy : Nat → ClassId) (sa : Nat → Nat) (sz : Nat) (L : List Nat) (f : Nat → va_E) {q2 q4 q6 q15 q21 q23 q27 q39 q48 q61 q100 q114 q115 : Nat} (h0 q1 q8 : Nat) (F_h0 : List Value) (F_q1 : List Value) (F_q8 : List Value) (n1 : Int32) (n2 : Int32) (n3 : Int32) (hC : pq_C L f [(h0, .inr (12, F_h0)), (q1, .inr (8, F_q1)), (q8, .inr (4, F_q8))]) (E_h0 : pq_E 17 F_h0 [(0, .ref q1), (1, .ref q23), (2, .ref q27), (5, .ref q39), (6, .ref q48), (7, .ref q61), (10, .ref q100), (11, .ref q114), (12, .ref q115), (15, .int 0)]) (E_q1 : pq_E 21 F_q1 [(0, .ref q2), (1, .ref q4), (2, .ref q6), (3, .ref q8), (5, .int (-1)), (10, .ref q15), (13, .int 0), (17, .int 0), (18, .int 0), (19, .ref q21)]) (E_q8 : pq_E 2 F_q8 [(1, .int 0)]) : vx_Met l yX12_cell (Cond.code yX12_cell cX12_cell 7 (some .int) :: pp_ws) ({ frames := 7, cells := 1, slots := 6, locals := 121 }) (px_Pc D cy sa [.ref h0, .int n1, .int n2, .int n3] sz L f) (fun _ _ _ _ => False) (pq_T D sz L f [h0, q1, q8] (fun E9 cs1 => E9 = px_IAE ∧ (True) ∧ cs1 = [])) 1 6 (pw_A L f sz) := by
  refine vx_ofW (cc := cX12_cell) (maxL := 7) (ret := (some .int)) (by decide) rfl ?_
  intro p e s m args below meth c s₁ B hml hno hv
  obtain ⟨rfl, hsz, hG, hX, hP, hD0⟩ := hv
  have hx := B.exec
  have hb := B.bytes
  have hr := B.returns
  have hts := atoms_spec (ws := Cond.code yX12_cell cX12_cell 7 (some .int) :: pp_ws) B.pre
  have hpp := fun (w : Cond) (h : w ∈ pp_ws) => hts w (List.mem_cons_of_mem _ h)
  have hown : s.vm.findClass RX12 = some m.cls := findClass_of_methodNamed B.named
  have hlocks := B.notSynchronized
  have hw := pw_start (cy := cy) hsz hP hD0
  have hW := pq_start (as := [h0, q1, q8]) hw hC rfl
  have hl := lv_entry ([.ref h0, .int n1, .int n2, .int n3]) (n := 7) (Nat.le_of_ble_eq_true rfl)
  rw [lg_entry_eq]
  generalize (lg_sl ([.ref h0, .int n1, .int n2, .int n3]) ++ List.replicate (7 - (lg_sl ([.ref h0, .int n1, .int n2, .int n3])).length) Slot.unset).toArray = ls at hl ⊢
  have hl : lv_has ls 7 [(0, .ref h0), (1, .int n1), (2, .int n2), (3, .int n3)] := hl
  refine lv_aload_n hx hb dX12_cell_0 rfl (lv_at hl 0 rfl) ?_
  refine lv_iload_n hx hb dX12_cell_1 rfl (lv_at hl 1 rfl) ?_
  refine pq_xcallN hW [0, 1, 2] [] (by decide) rfl rfl (fun f9 hw9 hC9 => vx_runV (C := RX12) (As := [.int n1]) (rest := []) ⟨hx, hb, hml, hown, hts⟩ (c_X12_tongueAt l hst D cy sa _ L f9 h0 q1 q8 F_h0 F_q1 F_q8 n1 hC9 E_h0 E_q1 E_q8) (cwV 1 hts (pp_gV pp120 pp119 pp121 pp122 pp123) rfl rfl rfl pd_X12_tongueAt ⟨Nat.le_of_ble_eq_true rfl, Nat.le_of_ble_eq_true rfl⟩) (pq_xpreV hG hX hw9 hC9 (j := 0) rfl rfl) rfl rfl hl.1 rfl (lv_room (Nat.le_of_ble_eq_true rfl)) dX12_cell_2 ⟨Nat.le_of_ble_eq_true rfl, Nat.le_of_ble_eq_true rfl⟩) (fun E9 ce q9 cs1 H locs hP hW hce hcv hcl => ?_)
  obtain ⟨rfl, hq, rfl⟩ := hP
  exact pq_out hno hlocks hce hcv hcl (hW.pick (cs2 := []) [] (by decide) rfl) ⟨rfl, trivial, rfl⟩ (Nat.le_of_ble_eq_true rfl) (Nat.le_of_ble_eq_true rfl)
set_option maxHeartbeats 4000000 in
set_option maxRecDepth 100000 in
/-- TongueHouse.guess on a new object -/
theorem c_X12_guess (l : Launch) (hst : l.stackTraces = false) (D : va_G) (cy : Nat → ClassId) (sa : Nat → Nat) (sz : Nat) (L : List Nat) (f : Nat → va_E) {q2 q4 q6 q15 q21 q23 q27 q39 q48 q61 q100 q114 q115 : Nat} (h0 q1 q8 : Nat) (F_h0 : List Value) (F_q1 : List Value) (F_q8 : List Value) (n1 : Int32) (hC : pq_C L f [(h0, .inr (12, F_h0)), (q1, .inr (8, F_q1)), (q8, .inr (4, F_q8))]) (E_h0 : pq_E 17 F_h0 [(0, .ref q1), (1, .ref q23), (2, .ref q27), (5, .ref q39), (6, .ref q48), (7, .ref q61), (10, .ref q100), (11, .ref q114), (12, .ref q115), (15, .int 0)]) (E_q1 : pq_E 21 F_q1 [(0, .ref q2), (1, .ref q4), (2, .ref q6), (3, .ref q8), (5, .int (-1)), (10, .ref q15), (13, .int 0), (17, .int 0), (18, .int 0), (19, .ref q21)]) (E_q8 : pq_E 2 F_q8 [(1, .int 0)]) : vx_Met l yX12_guess (Cond.code yX12_guess cX12_guess 4 (some .int) :: pp_ws) ({ frames := 7, cells := 1, slots := 6, locals := 121 }) (px_Pc D cy sa [.ref h0, .int n1] sz L f) (fun _ _ _ _ => False) (pq_T D sz L f [h0, q1, q8] (fun E9 cs1 => E9 = px_IAE ∧ (True) ∧ cs1 = [])) 1 6 (pw_A L f sz) := by
  refine vx_ofW (cc := cX12_guess) (maxL := 4) (ret := (some .int)) (by decide) rfl ?_
  intro p e s m args below meth c s₁ B hml hno hv
  obtain ⟨rfl, hsz, hG, hX, hP, hD0⟩ := hv
  have hx := B.exec
  have hb := B.bytes
  have hr := B.returns
  have hts := atoms_spec (ws := Cond.code yX12_guess cX12_guess 4 (some .int) :: pp_ws) B.pre
  have hpp := fun (w : Cond) (h : w ∈ pp_ws) => hts w (List.mem_cons_of_mem _ h)
  have hown : s.vm.findClass RX12 = some m.cls := findClass_of_methodNamed B.named
  have hlocks := B.notSynchronized
  have hw := pw_start (cy := cy) hsz hP hD0
  have hW := pq_start (as := [h0, q1, q8]) hw hC rfl
  have hl := lv_entry ([.ref h0, .int n1]) (n := 4) (Nat.le_of_ble_eq_true rfl)
  rw [lg_entry_eq]
  generalize (lg_sl ([.ref h0, .int n1]) ++ List.replicate (4 - (lg_sl ([.ref h0, .int n1])).length) Slot.unset).toArray = ls at hl ⊢
  have hl : lv_has ls 4 [(0, .ref h0), (1, .int n1)] := hl
  refine lv_aload_n hx hb dX12_guess_0 rfl (lv_at hl 0 rfl) ?_
  refine lv_iload_n hx hb dX12_guess_1 rfl (lv_at hl 1 rfl) ?_
  refine pq_xcallN hW [0, 1, 2] [] (by decide) rfl rfl (fun f9 hw9 hC9 => vx_runV (C := RX12) (As := [.int n1]) (rest := []) ⟨hx, hb, hml, hown, hts⟩ (c_X12_tongueAt l hst D cy sa _ L f9 h0 q1 q8 F_h0 F_q1 F_q8 n1 hC9 E_h0 E_q1 E_q8) (cwV 1 hts (pp_gV pp120 pp119 pp121 pp122 pp123) rfl rfl rfl pd_X12_tongueAt ⟨Nat.le_of_ble_eq_true rfl, Nat.le_of_ble_eq_true rfl⟩) (pq_xpreV hG hX hw9 hC9 (j := 0) rfl rfl) rfl rfl hl.1 rfl (lv_room (Nat.le_of_ble_eq_true rfl)) dX12_guess_2 ⟨Nat.le_of_ble_eq_true rfl, Nat.le_of_ble_eq_true rfl⟩) (fun E9 ce q9 cs1 H locs hP hW hce hcv hcl => ?_)
  obtain ⟨rfl, hq, rfl⟩ := hP
  exact pq_out hno hlocks hce hcv hcl (hW.pick (cs2 := []) [] (by decide) rfl) ⟨rfl, trivial, rfl⟩ (Nat.le_of_ble_eq_true rfl) (Nat.le_of_ble_eq_true rfl)
set_option maxHeartbeats 4000000 in
set_option maxRecDepth 100000 in
/-- TongueHouse.parse on a new object -/
theorem c_X12_parse (l : Launch) (hst : l.stackTraces = false) (D : va_G) (cy : Nat → ClassId) (sa : Nat → Nat) (sz : Nat) (L : List Nat) (f : Nat → va_E) {q2 q4 q6 q15 q21 q23 q27 q39 q48 q61 q100 q114 q115 : Nat} (h0 q1 q8 : Nat) (F_h0 : List Value) (F_q1 : List Value) (F_q8 : List Value) (n1 : Int32) (n2 : Int32) (hC : pq_C L f [(h0, .inr (12, F_h0)), (q1, .inr (8, F_q1)), (q8, .inr (4, F_q8))]) (E_h0 : pq_E 17 F_h0 [(0, .ref q1), (1, .ref q23), (2, .ref q27), (5, .ref q39), (6, .ref q48), (7, .ref q61), (10, .ref q100), (11, .ref q114), (12, .ref q115), (15, .int 0)]) (E_q1 : pq_E 21 F_q1 [(0, .ref q2), (1, .ref q4), (2, .ref q6), (3, .ref q8), (5, .int (-1)), (10, .ref q15), (13, .int 0), (17, .int 0), (18, .int 0), (19, .ref q21)]) (E_q8 : pq_E 2 F_q8 [(1, .int 0)]) : vx_Met l yX12_parse (Cond.code yX12_parse cX12_parse 5 (some .int) :: pp_ws) ({ frames := 7, cells := 1, slots := 6, locals := 121 }) (px_Pc D cy sa [.ref h0, .int n1, .int n2] sz L f) (fun _ _ _ _ => False) (pq_T D sz L f [h0, q1, q8] (fun E9 cs1 => E9 = px_IAE ∧ (True) ∧ cs1 = [])) 1 6 (pw_A L f sz) := by
  refine vx_ofW (cc := cX12_parse) (maxL := 5) (ret := (some .int)) (by decide) rfl ?_
  intro p e s m args below meth c s₁ B hml hno hv
  obtain ⟨rfl, hsz, hG, hX, hP, hD0⟩ := hv
  have hx := B.exec
  have hb := B.bytes
  have hr := B.returns
  have hts := atoms_spec (ws := Cond.code yX12_parse cX12_parse 5 (some .int) :: pp_ws) B.pre
  have hpp := fun (w : Cond) (h : w ∈ pp_ws) => hts w (List.mem_cons_of_mem _ h)
  have hown : s.vm.findClass RX12 = some m.cls := findClass_of_methodNamed B.named
  have hlocks := B.notSynchronized
  have hw := pw_start (cy := cy) hsz hP hD0
  have hW := pq_start (as := [h0, q1, q8]) hw hC rfl
  have hl := lv_entry ([.ref h0, .int n1, .int n2]) (n := 5) (Nat.le_of_ble_eq_true rfl)
  rw [lg_entry_eq]
  generalize (lg_sl ([.ref h0, .int n1, .int n2]) ++ List.replicate (5 - (lg_sl ([.ref h0, .int n1, .int n2])).length) Slot.unset).toArray = ls at hl ⊢
  have hl : lv_has ls 5 [(0, .ref h0), (1, .int n1), (2, .int n2)] := hl
  refine lv_aload_n hx hb dX12_parse_0 rfl (lv_at hl 0 rfl) ?_
  refine lv_iload_n hx hb dX12_parse_1 rfl (lv_at hl 1 rfl) ?_
  refine pq_xcallN hW [0, 1, 2] [] (by decide) rfl rfl (fun f9 hw9 hC9 => vx_runV (C := RX12) (As := [.int n1]) (rest := []) ⟨hx, hb, hml, hown, hts⟩ (c_X12_tongueAt l hst D cy sa _ L f9 h0 q1 q8 F_h0 F_q1 F_q8 n1 hC9 E_h0 E_q1 E_q8) (cwV 1 hts (pp_gV pp120 pp119 pp121 pp122 pp123) rfl rfl rfl pd_X12_tongueAt ⟨Nat.le_of_ble_eq_true rfl, Nat.le_of_ble_eq_true rfl⟩) (pq_xpreV hG hX hw9 hC9 (j := 0) rfl rfl) rfl rfl hl.1 rfl (lv_room (Nat.le_of_ble_eq_true rfl)) dX12_parse_2 ⟨Nat.le_of_ble_eq_true rfl, Nat.le_of_ble_eq_true rfl⟩) (fun E9 ce q9 cs1 H locs hP hW hce hcv hcl => ?_)
  obtain ⟨rfl, hq, rfl⟩ := hP
  exact pq_out hno hlocks hce hcv hcl (hW.pick (cs2 := []) [] (by decide) rfl) ⟨rfl, trivial, rfl⟩ (Nat.le_of_ble_eq_true rfl) (Nat.le_of_ble_eq_true rfl)
theorem pz_X12_bar_1 (n1 : Int32) (c1 : ¬ n1 < 0) (c2 : n1 < 0) : False := by
  have k0 : (0 : Int32).toInt = 0 := by decide
  simp only [Int32.lt_iff_toInt_lt, Int32.le_iff_toInt_le, ← Int32.toInt_inj] at c1 c2 ⊢
  omega
set_option maxHeartbeats 4000000 in
set_option maxRecDepth 100000 in
/-- TongueHouse.bar on a new object -/
theorem c_X12_bar (l : Launch) (hst : l.stackTraces = false) (D : va_G) (cy : Nat → ClassId) (sa : Nat → Nat) (sz : Nat) (L : List Nat) (f : Nat → va_E) {q2 q6 q8 q15 q21 q23 q27 q39 q48 q61 q100 q114 q115 : Nat} (h0 q1 q4 : Nat) (F_h0 : List Value) (F_q1 : List Value) (F_q4 : List Value) (n1 : Int32) (n2 : Int32) (hC : pq_C L f [(h0, .inr (12, F_h0)), (q1, .inr (8, F_q1)), (q4, .inr (4, F_q4))]) (E_h0 : pq_E 17 F_h0 [(0, .ref q1), (1, .ref q23), (2, .ref q27), (5, .ref q39), (6, .ref q48), (7, .ref q61), (10, .ref q100), (11, .ref q114), (12, .ref q115), (15, .int 0)]) (E_q1 : pq_E 21 F_q1 [(0, .ref q2), (1, .ref q4), (2, .ref q6), (3, .ref q8), (5, .int (-1)), (10, .ref q15), (13, .int 0), (17, .int 0), (18, .int 0), (19, .ref q21)]) (E_q4 : pq_E 2 F_q4 [(1, .int 0)]) : vx_Met l yX12_bar (Cond.code yX12_bar cX12_bar 3 (some .long) :: pp_ws) ({ frames := 6, cells := 1, slots := 6, locals := 100 }) (px_Pc D cy sa [.ref h0, .int n1, .int n2] sz L f) (fun _ _ _ _ => False) (pq_T D sz L f [h0, q1, q4] (fun E9 cs1 => E9 = px_IAE ∧ (True) ∧ cs1 = [])) 1 6 (pw_A L f sz) := by
  refine vx_ofW (cc := cX12_bar) (maxL := 3) (ret := (some .long)) (by decide) rfl ?_
  intro p e s m args below meth c s₁ B hml hno hv
  obtain ⟨rfl, hsz, hG, hX, hP, hD0⟩ := hv
  have hx := B.exec
  have hb := B.bytes
  have hr := B.returns
  have hts := atoms_spec (ws := Cond.code yX12_bar cX12_bar 3 (some .long) :: pp_ws) B.pre
  have hpp := fun (w : Cond) (h : w ∈ pp_ws) => hts w (List.mem_cons_of_mem _ h)
  have hown : s.vm.findClass RX12 = some m.cls := findClass_of_methodNamed B.named
  have hlocks := B.notSynchronized
  have hw := pw_start (cy := cy) hsz hP hD0
  have hW := pq_start (as := [h0, q1, q4]) hw hC rfl
  have hl := lv_entry ([.ref h0, .int n1, .int n2]) (n := 3) (Nat.le_of_ble_eq_true rfl)
  rw [lg_entry_eq]
  generalize (lg_sl ([.ref h0, .int n1, .int n2]) ++ List.replicate (3 - (lg_sl ([.ref h0, .int n1, .int n2])).length) Slot.unset).toArray = ls at hl ⊢
  have hl : lv_has ls 3 [(0, .ref h0), (1, .int n1), (2, .int n2)] := hl
  refine lv_iload_n hx hb dX12_bar_0 rfl (lv_at hl 1 rfl) ?_
  refine lv_if_lt (tgt := 18) hx hb dX12_bar_1 (by decide) (fun c1 => ?_) (fun c1 => ?_)
  · exact px_throwI (text := "no such fun") (is := 240) hx hb hst hpp hown pp21 pp22 pi_at (by decide +kernel) hX (hW.pick (cs2 := []) [] (by decide) rfl) ⟨rfl, trivial, rfl⟩ (hl.1.trans hml.symm) dX12_bar_18 dX12_bar_21 dX12_bar_22 dX12_bar_24 dX12_bar_27 hno (Nat.le_of_ble_eq_true rfl) (Nat.le_of_ble_eq_true rfl) (Nat.le_of_ble_eq_true rfl) (Nat.le_of_ble_eq_true rfl) hlocks (Nat.le_of_ble_eq_true rfl) (Nat.le_of_ble_eq_true rfl)
  · refine lv_iload_n hx hb dX12_bar_4 rfl (lv_at hl 1 rfl) ?_
    refine lv_aload_n hx hb dX12_bar_5 rfl (lv_at hl 0 rfl) ?_
    refine pq_get (own := RX12) (ci := 12) (C := RX12) (T := TX12) (N := 17) (k := 0) (v := .ref q1) hx hb hpp pi12 rfl hown hG hW 0 rfl E_h0 0 rfl (by decide) pp110 dX12_bar_6 ?_
    refine pq_get (own := RX12) (ci := 8) (C := RX8) (T := TX8) (N := 21) (k := 1) (v := .ref q4) hx hb hpp pi8 rfl hown hG hW 1 rfl E_q1 1 rfl (by decide) pp124 dX12_bar_9 ?_
    refine pq_get (own := RX12) (ci := 4) (C := RX4) (T := TX4) (N := 2) (k := 1) (v := .int 0) hx hb hpp pi4 rfl hown hG hW 2 rfl E_q4 0 rfl (by decide) pp118 dX12_bar_12 ?_
    refine lv_icmp_lt (tgt := 28) hx hb dX12_bar_15 (by decide) (fun c2 => (pz_X12_bar_1 n1 c1 c2).elim) (fun _ => ?_)
    exact px_throwI (text := "no such fun") (is := 240) hx hb hst hpp hown pp21 pp22 pi_at (by decide +kernel) hX (hW.pick (cs2 := []) [] (by decide) rfl) ⟨rfl, trivial, rfl⟩ (hl.1.trans hml.symm) dX12_bar_18 dX12_bar_21 dX12_bar_22 dX12_bar_24 dX12_bar_27 hno (Nat.le_of_ble_eq_true rfl) (Nat.le_of_ble_eq_true rfl) (Nat.le_of_ble_eq_true rfl) (Nat.le_of_ble_eq_true rfl) hlocks (Nat.le_of_ble_eq_true rfl) (Nat.le_of_ble_eq_true rfl)
