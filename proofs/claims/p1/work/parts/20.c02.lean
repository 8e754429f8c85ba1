theorem pz_X12_tongueAt_1 (n1 : Int32) (c1 : ¬ n1 < 0) (c2 : ¬ 0 ≤ n1) : False := by
  have k0 : (0 : Int32).toInt = 0 := by decide
  simp only [Int32.lt_iff_toInt_lt, Int32.le_iff_toInt_le, ← Int32.toInt_inj] at c1 c2 ⊢
  omega
set_option maxHeartbeats 4000000 in
set_option maxRecDepth 100000 in
/-- TongueHouse.tongueAt on a new object -/
theorem c_X12_tongueAt (l : Launch) (hst : l.stackTraces = false) (D : va_G) (cy : Nat → ClassId) (sa : Nat → Nat) (sz : Nat) (L : List Nat) (f : Nat → va_E) {q2 q4 q6 q15 q21 q23 q27 q39 q48 q61 q100 q114 q115 : Nat} (h0 q1 q8 : Nat) (F_h0 : List Value) (F_q1 : List Value) (F_q8 : List Value) (n1 : Int32) (hC : pq_C L f [(h0, .inr (12, F_h0)), (q1, .inr (8, F_q1)), (q8, .inr (4, F_q8))]) (E_h0 : pq_E 17 F_h0 [(0, .ref q1), (1, .ref q23), (2, .ref q27), (5, .ref q39), (6, .ref q48), (7, .ref q61), (10, .ref q100), (11, .ref q114), (12, .ref q115), (15, .int 0)]) (E_q1 : pq_E 21 F_q1 [(0, .ref q2), (1, .ref q4), (2, .ref q6), (3, .ref q8), (5, .int (-1)), (10, .ref q15), (13, .int 0), (17, .int 0), (18, .int 0), (19, .ref q21)]) (E_q8 : pq_E 2 F_q8 [(1, .int 0)]) : vx_Met l yX12_tongueAt (Cond.code yX12_tongueAt cX12_tongueAt 2 (some (.object "TongueHouse$Tongue")) :: pp_ws) ({ frames := 6, cells := 1, slots := 6, locals := 100 }) (px_Pc D cy sa [.ref h0, .int n1] sz L f) (fun _ _ _ _ => False) (pq_T D sz L f [h0, q1, q8] (fun E9 cs1 => E9 = px_IAE ∧ (True) ∧ cs1 = [])) 1 6 (pw_A L f sz) := by
  refine vx_ofW (cc := cX12_tongueAt) (maxL := 2) (ret := (some (.object "TongueHouse$Tongue"))) (by decide) rfl ?_
  intro p e s m args below meth c s₁ B hml hno hv
  obtain ⟨rfl, hsz, hG, hX, hP, hD0⟩ := hv
  have hx := B.exec
  have hb := B.bytes
  have hr := B.returns
  have hts := atoms_spec (ws := Cond.code yX12_tongueAt cX12_tongueAt 2 (some (.object "TongueHouse$Tongue")) :: pp_ws) B.pre
  have hpp := fun (w : Cond) (h : w ∈ pp_ws) => hts w (List.mem_cons_of_mem _ h)
  have hown : s.vm.findClass RX12 = some m.cls := findClass_of_methodNamed B.named
  have hlocks := B.notSynchronized
  have hw := pw_start (cy := cy) hsz hP hD0
  have hW := pq_start (as := [h0, q1, q8]) hw hC rfl
  have hl := lv_entry ([.ref h0, .int n1]) (n := 2) (Nat.le_of_ble_eq_true rfl)
  rw [lg_entry_eq]
  generalize (lg_sl ([.ref h0, .int n1]) ++ List.replicate (2 - (lg_sl ([.ref h0, .int n1])).length) Slot.unset).toArray = ls at hl ⊢
  have hl : lv_has ls 2 [(0, .ref h0), (1, .int n1)] := hl
  refine lv_iload_n hx hb dX12_tongueAt_0 rfl (lv_at hl 1 rfl) ?_
  refine lv_if_lt (tgt := 30) hx hb dX12_tongueAt_1 (by decide) (fun c1 => ?_) (fun c1 => ?_)
  · exact px_throwIW (text := "no such tongue") (is := 360) hx hb hst hpp hown pp21 pp22 pi_at (by decide +kernel) hX (hW.pick (cs2 := []) [] (by decide) rfl) ⟨rfl, trivial, rfl⟩ (hl.1.trans hml.symm) dX12_tongueAt_30 dX12_tongueAt_33 dX12_tongueAt_34 dX12_tongueAt_37 dX12_tongueAt_40 hno (Nat.le_of_ble_eq_true rfl) (Nat.le_of_ble_eq_true rfl) (Nat.le_of_ble_eq_true rfl) (Nat.le_of_ble_eq_true rfl) hlocks (Nat.le_of_ble_eq_true rfl) (Nat.le_of_ble_eq_true rfl)
  · refine lv_iload_n hx hb dX12_tongueAt_4 rfl (lv_at hl 1 rfl) ?_
    refine lv_aload_n hx hb dX12_tongueAt_5 rfl (lv_at hl 0 rfl) ?_
    refine pq_get (own := RX12) (ci := 12) (C := RX12) (T := TX12) (N := 17) (k := 0) (v := .ref q1) hx hb hpp pi12 rfl hown hG hW 0 rfl E_h0 0 rfl (by decide) pp110 dX12_tongueAt_6 ?_
    refine pq_get (own := RX12) (ci := 8) (C := RX8) (T := TX8) (N := 21) (k := 3) (v := .ref q8) hx hb hpp pi8 rfl hown hG hW 1 rfl E_q1 3 rfl (by decide) pp117 dX12_tongueAt_9 ?_
    refine pq_get (own := RX12) (ci := 4) (C := RX4) (T := TX4) (N := 2) (k := 1) (v := .int 0) hx hb hpp pi4 rfl hown hG hW 2 rfl E_q8 0 rfl (by decide) pp118 dX12_tongueAt_12 ?_
    refine lv_icmp_ge (tgt := 30) hx hb dX12_tongueAt_15 (by decide) (fun _ => ?_) (fun c2 => (pz_X12_tongueAt_1 n1 c1 c2).elim)
    exact px_throwIW (text := "no such tongue") (is := 360) hx hb hst hpp hown pp21 pp22 pi_at (by decide +kernel) hX (hW.pick (cs2 := []) [] (by decide) rfl) ⟨rfl, trivial, rfl⟩ (hl.1.trans hml.symm) dX12_tongueAt_30 dX12_tongueAt_33 dX12_tongueAt_34 dX12_tongueAt_37 dX12_tongueAt_40 hno (Nat.le_of_ble_eq_true rfl) (Nat.le_of_ble_eq_true rfl) (Nat.le_of_ble_eq_true rfl) (Nat.le_of_ble_eq_true rfl) hlocks (Nat.le_of_ble_eq_true rfl) (Nat.le_of_ble_eq_true rfl)
theorem pz_X12_number_1 (n2 : Int32) (c1 : n2 < 0) : n2 < 0 ∨ 2 < n2 := by
  have k0 : (0 : Int32).toInt = 0 := by decide
  have k2 : (2 : Int32).toInt = 2 := by decide
  simp only [Int32.lt_iff_toInt_lt, Int32.le_iff_toInt_le, ← Int32.toInt_inj] at c1 ⊢
  omega
theorem pz_X12_number_2 (n2 : Int32) (c1 : ¬ n2 < 0) (c2 : n2 ≤ 5) (c3 : ¬ n2 = 0) (c4 : ¬ n2 = 2) (c5 : n2 ≤ 2) : ¬ (n2 < 0 ∨ 2 < n2) := by
  have k0 : (0 : Int32).toInt = 0 := by decide
  have k2 : (2 : Int32).toInt = 2 := by decide
  have k5 : (5 : Int32).toInt = 5 := by decide
  simp only [Int32.lt_iff_toInt_lt, Int32.le_iff_toInt_le, ← Int32.toInt_inj] at c1 c2 c3 c4 c5 ⊢
  omega
theorem pz_X12_number_3 (n2 : Int32) (c1 : ¬ n2 < 0) (c2 : n2 ≤ 5) (c3 : ¬ n2 = 0) (c4 : ¬ n2 = 2) (c5 : ¬ n2 ≤ 2) : n2 < 0 ∨ 2 < n2 := by
  have k0 : (0 : Int32).toInt = 0 := by decide
  have k2 : (2 : Int32).toInt = 2 := by decide
  have k5 : (5 : Int32).toInt = 5 := by decide
  simp only [Int32.lt_iff_toInt_lt, Int32.le_iff_toInt_le, ← Int32.toInt_inj] at c1 c2 c3 c4 c5 ⊢
  omega
theorem pz_X12_number_4 (n2 : Int32) (c1 : ¬ n2 < 0) (c2 : n2 ≤ 5) (c3 : ¬ n2 = 0) (c4 : n2 = 2) : ¬ (n2 < 0 ∨ 2 < n2) := by
  have k0 : (0 : Int32).toInt = 0 := by decide
  have k2 : (2 : Int32).toInt = 2 := by decide
  have k5 : (5 : Int32).toInt = 5 := by decide
  simp only [Int32.lt_iff_toInt_lt, Int32.le_iff_toInt_le, ← Int32.toInt_inj] at c1 c2 c3 c4 ⊢
  omega
theorem pz_X12_number_5 (n2 : Int32) (c1 : ¬ n2 < 0) (c2 : n2 ≤ 5) (c3 : n2 = 0) : ¬ (n2 < 0 ∨ 2 < n2) := by
  have k0 : (0 : Int32).toInt = 0 := by decide
  have k2 : (2 : Int32).toInt = 2 := by decide
  have k5 : (5 : Int32).toInt = 5 := by decide
  simp only [Int32.lt_iff_toInt_lt, Int32.le_iff_toInt_le, ← Int32.toInt_inj] at c1 c2 c3 ⊢
  omega
theorem pz_X12_number_6 (n2 : Int32) (c1 : ¬ n2 < 0) (c2 : ¬ n2 ≤ 5) : n2 < 0 ∨ 2 < n2 := by
  have k0 : (0 : Int32).toInt = 0 := by decide
  have k2 : (2 : Int32).toInt = 2 := by decide
  have k5 : (5 : Int32).toInt = 5 := by decide
  simp only [Int32.lt_iff_toInt_lt, Int32.le_iff_toInt_le, ← Int32.toInt_inj] at c1 c2 ⊢
  omega
set_option maxHeartbeats 4000000 in
set_option maxRecDepth 100000 in
/-- TongueHouse.number on a new object -/
theorem c_X12_number (l : Launch) (hst : l.stackTraces = false) (D : va_G) (cy : Nat → ClassId) (sa : Nat → Nat) (sz : Nat) (L : List Nat) (f : Nat → va_E) {q2 q4 q6 q15 q21 q24 q27 q39 q48 q61 q100 q114 q115 : Nat} (h0 q1 q23 q8 : Nat) (F_h0 : List Value) (F_q1 : List Value) (F_q23 : List Value) (F_q8 : List Value) (n1 : Int32) (n2 : Int32) (hC : pq_C L f [(h0, .inr (12, F_h0)), (q1, .inr (8, F_q1)), (q23, .inr (9, F_q23)), (q8, .inr (4, F_q8))]) (E_h0 : pq_E 17 F_h0 [(0, .ref q1), (1, .ref q23), (2, .ref q27), (5, .ref q39), (6, .ref q48), (7, .ref q61), (10, .ref q100), (11, .ref q114), (12, .ref q115), (15, .int 0)]) (E_q1 : pq_E 21 F_q1 [(0, .ref q2), (1, .ref q4), (2, .ref q6), (3, .ref q8), (5, .int (-1)), (10, .ref q15), (13, .int 0), (17, .int 0), (18, .int 0), (19, .ref q21)]) (E_q23 : pq_E 10 F_q23 [(0, .ref q24), (1, .int 0), (5, .int 0), (6, .int 0), (7, .int 0)]) (E_q8 : pq_E 2 F_q8 [(1, .int 0)]) : vx_Met l yX12_number (Cond.code yX12_number cX12_number 6 (some .int) :: pp_ws) ({ frames := 7, cells := 1, slots := 6, locals := 121 }) (px_Pc D cy sa [.ref h0, .int n1, .int n2] sz L f) (pq_Qi D sz L f [h0, q1, q23, q8] (fun r cs1 => r = (-1) ∧ ¬ (n2 < 0 ∨ 2 < n2) ∧ cs1 = [])) (pq_T D sz L f [h0, q1, q23, q8] (fun E9 cs1 => E9 = px_IAE ∧ (n2 < 0 ∨ 2 < n2) ∧ cs1 = [])) 1 6 (pw_A L f sz) := by
  refine vx_ofW (cc := cX12_number) (maxL := 6) (ret := (some .int)) (by decide) rfl ?_
  intro p e s m args below meth c s₁ B hml hno hv
  obtain ⟨rfl, hsz, hG, hX, hP, hD0⟩ := hv
  have hx := B.exec
  have hb := B.bytes
  have hr := B.returns
  have hts := atoms_spec (ws := Cond.code yX12_number cX12_number 6 (some .int) :: pp_ws) B.pre
  have hpp := fun (w : Cond) (h : w ∈ pp_ws) => hts w (List.mem_cons_of_mem _ h)
  have hown : s.vm.findClass RX12 = some m.cls := findClass_of_methodNamed B.named
  have hlocks := B.notSynchronized
  have hw := pw_start (cy := cy) hsz hP hD0
  have hW := pq_start (as := [h0, q1, q23, q8]) hw hC rfl
  have hl := lv_entry ([.ref h0, .int n1, .int n2]) (n := 6) (Nat.le_of_ble_eq_true rfl)
  rw [lg_entry_eq]
  generalize (lg_sl ([.ref h0, .int n1, .int n2]) ++ List.replicate (6 - (lg_sl ([.ref h0, .int n1, .int n2])).length) Slot.unset).toArray = ls at hl ⊢
  have hl : lv_has ls 6 [(0, .ref h0), (1, .int n1), (2, .int n2)] := hl
  refine lv_iload_n hx hb dX12_number_0 rfl (lv_at hl 2 rfl) ?_
  refine lv_if_lt (tgt := 9) hx hb dX12_number_1 (by decide) (fun c1 => ?_) (fun c1 => ?_)
  · exact px_throwI (text := "no such what") (is := 143) hx hb hst hpp hown pp21 pp22 pi_at (by decide +kernel) hX (hW.pick (cs2 := []) [] (by decide) rfl) ⟨rfl, (pz_X12_number_1 n2 c1), rfl⟩ (hl.1.trans hml.symm) dX12_number_9 dX12_number_12 dX12_number_13 dX12_number_15 dX12_number_18 hno (Nat.le_of_ble_eq_true rfl) (Nat.le_of_ble_eq_true rfl) (Nat.le_of_ble_eq_true rfl) (Nat.le_of_ble_eq_true rfl) hlocks (Nat.le_of_ble_eq_true rfl) (Nat.le_of_ble_eq_true rfl)
  · refine lv_iload_n hx hb dX12_number_4 rfl (lv_at hl 2 rfl) ?_
    refine lv_iconst (v := 5) hx hb dX12_number_5 (by decide) ?_
    refine lv_icmp_le (tgt := 19) hx hb dX12_number_6 (by decide) (fun c2 => ?_) (fun c2 => ?_)
    · refine lv_aload_n hx hb dX12_number_19 rfl (lv_at hl 0 rfl) ?_
      refine pq_get (own := RX12) (ci := 12) (C := RX12) (T := TX12) (N := 17) (k := 0) (v := .ref q1) hx hb hpp pi12 rfl hown hG hW 0 rfl E_h0 0 rfl (by decide) pp110 dX12_number_20 ?_
      refine pq_get (own := RX12) (ci := 8) (C := RX8) (T := TX8) (N := 21) (k := 0) (v := .ref q2) hx hb hpp pi8 rfl hown hG hW 1 rfl E_q1 0 rfl (by decide) pp111 dX12_number_23 ?_
      refine lv_astore_n (lv' := [(3, .ref q2), (0, .ref h0), (1, .int n1), (2, .int n2)]) hx hb dX12_number_26 rfl hl (by decide) rfl (fun ls hl => ?_)
      refine lv_iload_n hx hb dX12_number_27 rfl (lv_at hl 3 rfl) ?_
      refine lv_if_ne (tgt := 42) hx hb dX12_number_28 (by decide) (fun c3 => ?_) (fun c3 => ?_)
      · refine lv_iload_n hx hb dX12_number_42 rfl (lv_at hl 3 rfl) ?_
        refine lv_iconst (v := 2) hx hb dX12_number_43 (by decide) ?_
        refine lv_icmp_ne (tgt := 58) hx hb dX12_number_44 (by decide) (fun c4 => ?_) (fun c4 => ?_)
        · refine lv_iload_n hx hb dX12_number_58 rfl (lv_at hl 3 rfl) ?_
          refine lv_iconst (v := 2) hx hb dX12_number_59 (by decide) ?_
          refine lv_icmp_le (tgt := 77) hx hb dX12_number_60 (by decide) (fun c5 => ?_) (fun c5 => ?_)
          · refine lv_aload_n hx hb dX12_number_77 rfl (lv_at hl 1 rfl) ?_
            refine pq_get (own := RX12) (ci := 12) (C := RX12) (T := TX12) (N := 17) (k := 1) (v := .ref q23) hx hb hpp pi12 rfl hown hG hW 0 rfl E_h0 1 rfl (by decide) pp0 dX12_number_78 ?_
            refine pq_calll hW [2] [0, 1, 3] (by decide) rfl rfl (fun f9 hw9 hC9 => va_runV (C := RX9) (As := []) (rest := []) ⟨hx, hb, hml, hown, hts⟩ (c_X9_onlyName l D cy _ L f9 q23 F_q23 hC9 E_q23) (cwV 0 hts (pp_gV pp114 pp113 pp115 pp116 pp8) rfl rfl rfl pd_X9_onlyName ⟨Nat.le_of_ble_eq_true rfl, Nat.le_of_ble_eq_true rfl⟩) (pq_preV hG hw9 hC9 (j := 0) rfl rfl) rfl rfl hl.1 rfl (lv_room (Nat.le_of_ble_eq_true rfl)) dX12_number_81 ⟨Nat.le_of_ble_eq_true rfl, Nat.le_of_ble_eq_true rfl⟩) (fun r cs1 H locs hP hW => ?_)
            obtain ⟨F_q23, rfl, rfl, E_q23⟩ := hP
            have hW : pq_W D _ s.heap L f _ [(q23, .inr (9, F_q23)), (h0, .inr (12, F_h0)), (q1, .inr (8, F_q1)), (q8, .inr (4, F_q8))] H locs := hW
            refine lv_lstore (lv' := [(4, .long 0), (3, .ref q2), (0, .ref h0), (1, .int n1), (2, .int n2)]) hx hb dX12_number_84 hl (by decide) rfl (fun ls hl => ?_)
            refine lv_aload_n hx hb dX12_number_86 rfl (lv_at hl 2 rfl) ?_
            refine pq_get (own := RX12) (ci := 12) (C := RX12) (T := TX12) (N := 17) (k := 1) (v := .ref q23) hx hb hpp pi12 rfl hown hG hW 1 rfl E_h0 1 rfl (by decide) pp0 dX12_number_87 ?_
            refine lv_iconst (v := 0) hx hb dX12_number_90 (by decide) ?_
            refine pq_put (own := RX12) (ci := 9) (C := RX9) (T := TX9) (N := 10) (kv' := [(0, .ref q24), (1, .int 0), (5, .int 0), (6, .int 0), (7, .int 4)]) hx hb hpp pi9 tyX9 tyX9_ok nmX9 rfl hown hG hW 0 rfl E_q23 1 (by decide) rfl rfl rfl rfl pp1 dX12_number_91 (fun F_q23 H locs hW E_q23 => ?_)
            have hW : pq_W D _ s.heap L f _ [(q23, .inr (9, F_q23)), (h0, .inr (12, F_h0)), (q1, .inr (8, F_q1)), (q8, .inr (4, F_q8))] H locs := hW
            refine lv_lload hx hb dX12_number_94 (lv_at hl 0 rfl) ?_
            refine lv_lconst (v := 0) hx hb dX12_number_96 (by decide) ?_
            refine W.lcmp hx hb dX12_number_97 ?_
            refine pq_topi (y := 0) (by decide) ?_
            refine lv_if_ne (tgt := 105) hx hb dX12_number_98 (by decide) (fun c9 => absurd c9 (by decide)) (fun _ => ?_)
            refine lv_iconst (v := (-1)) hx hb dX12_number_101 (by decide) ?_
            refine lv_goto (tgt := 111) hx hb dX12_number_102 (by decide) ?_
            exact px_iret hx hb hr hlocks rfl (hW.pick (cs2 := []) [] (by decide) rfl) ⟨rfl, (pz_X12_number_2 n2 c1 c2 c3 c4 c5), rfl⟩ (Nat.le_of_ble_eq_true rfl) (Nat.le_of_ble_eq_true rfl) dX12_number_111
          · refine lv_aload_n hx hb dX12_number_63 rfl (lv_at hl 1 rfl) ?_
            refine lv_iload_n hx hb dX12_number_64 rfl (lv_at hl 2 rfl) ?_
            refine pq_xcallN hW [0, 1, 3] [2] (by decide) rfl rfl (fun f9 hw9 hC9 => vx_runV (C := RX12) (As := [.int n1]) (rest := []) ⟨hx, hb, hml, hown, hts⟩ (c_X12_tongueAt l hst D cy sa _ L f9 h0 q1 q8 F_h0 F_q1 F_q8 n1 hC9 E_h0 E_q1 E_q8) (cwV 1 hts (pp_gV pp120 pp119 pp121 pp122 pp123) rfl rfl rfl pd_X12_tongueAt ⟨Nat.le_of_ble_eq_true rfl, Nat.le_of_ble_eq_true rfl⟩) (pq_xpreV hG hX hw9 hC9 (j := 0) rfl rfl) rfl rfl hl.1 rfl (lv_room (Nat.le_of_ble_eq_true rfl)) dX12_number_65 ⟨Nat.le_of_ble_eq_true rfl, Nat.le_of_ble_eq_true rfl⟩) (fun E9 ce q9 cs1 H locs hP hW hce hcv hcl => ?_)
            obtain ⟨rfl, hq, rfl⟩ := hP
            exact pq_out hno hlocks hce hcv hcl (hW.pick (cs2 := []) [] (by decide) rfl) ⟨rfl, (pz_X12_number_3 n2 c1 c2 c3 c4 c5), rfl⟩ (Nat.le_of_ble_eq_true rfl) (Nat.le_of_ble_eq_true rfl)
        · refine lv_aload_n hx hb dX12_number_47 rfl (lv_at hl 1 rfl) ?_
          refine pq_get (own := RX12) (ci := 12) (C := RX12) (T := TX12) (N := 17) (k := 0) (v := .ref q1) hx hb hpp pi12 rfl hown hG hW 0 rfl E_h0 0 rfl (by decide) pp110 dX12_number_48 ?_
          refine pq_get (own := RX12) (ci := 8) (C := RX8) (T := TX8) (N := 21) (k := 1) (v := .ref q4) hx hb hpp pi8 rfl hown hG hW 1 rfl E_q1 1 rfl (by decide) pp124 dX12_number_51 ?_
          refine lv_astore_n (lv' := [(3, .ref q4), (0, .ref h0), (1, .int n1), (2, .int n2)]) hx hb dX12_number_54 rfl hl (by decide) rfl (fun ls hl => ?_)
          refine lv_goto (tgt := 77) hx hb dX12_number_55 (by decide) ?_
          refine lv_aload_n hx hb dX12_number_77 rfl (lv_at hl 1 rfl) ?_
          refine pq_get (own := RX12) (ci := 12) (C := RX12) (T := TX12) (N := 17) (k := 1) (v := .ref q23) hx hb hpp pi12 rfl hown hG hW 0 rfl E_h0 1 rfl (by decide) pp0 dX12_number_78 ?_
          refine pq_calll hW [2] [0, 1, 3] (by decide) rfl rfl (fun f9 hw9 hC9 => va_runV (C := RX9) (As := []) (rest := []) ⟨hx, hb, hml, hown, hts⟩ (c_X9_onlyName l D cy _ L f9 q23 F_q23 hC9 E_q23) (cwV 0 hts (pp_gV pp114 pp113 pp115 pp116 pp8) rfl rfl rfl pd_X9_onlyName ⟨Nat.le_of_ble_eq_true rfl, Nat.le_of_ble_eq_true rfl⟩) (pq_preV hG hw9 hC9 (j := 0) rfl rfl) rfl rfl hl.1 rfl (lv_room (Nat.le_of_ble_eq_true rfl)) dX12_number_81 ⟨Nat.le_of_ble_eq_true rfl, Nat.le_of_ble_eq_true rfl⟩) (fun r cs1 H locs hP hW => ?_)
          obtain ⟨F_q23, rfl, rfl, E_q23⟩ := hP
          have hW : pq_W D _ s.heap L f _ [(q23, .inr (9, F_q23)), (h0, .inr (12, F_h0)), (q1, .inr (8, F_q1)), (q8, .inr (4, F_q8))] H locs := hW
          refine lv_lstore (lv' := [(4, .long 0), (3, .ref q4), (0, .ref h0), (1, .int n1), (2, .int n2)]) hx hb dX12_number_84 hl (by decide) rfl (fun ls hl => ?_)
          refine lv_aload_n hx hb dX12_number_86 rfl (lv_at hl 2 rfl) ?_
          refine pq_get (own := RX12) (ci := 12) (C := RX12) (T := TX12) (N := 17) (k := 1) (v := .ref q23) hx hb hpp pi12 rfl hown hG hW 1 rfl E_h0 1 rfl (by decide) pp0 dX12_number_87 ?_
          refine lv_iconst (v := 0) hx hb dX12_number_90 (by decide) ?_
          refine pq_put (own := RX12) (ci := 9) (C := RX9) (T := TX9) (N := 10) (kv' := [(0, .ref q24), (1, .int 0), (5, .int 0), (6, .int 0), (7, .int 4)]) hx hb hpp pi9 tyX9 tyX9_ok nmX9 rfl hown hG hW 0 rfl E_q23 1 (by decide) rfl rfl rfl rfl pp1 dX12_number_91 (fun F_q23 H locs hW E_q23 => ?_)
          have hW : pq_W D _ s.heap L f _ [(q23, .inr (9, F_q23)), (h0, .inr (12, F_h0)), (q1, .inr (8, F_q1)), (q8, .inr (4, F_q8))] H locs := hW
          refine lv_lload hx hb dX12_number_94 (lv_at hl 0 rfl) ?_
          refine lv_lconst (v := 0) hx hb dX12_number_96 (by decide) ?_
          refine W.lcmp hx hb dX12_number_97 ?_
          refine pq_topi (y := 0) (by decide) ?_
          refine lv_if_ne (tgt := 105) hx hb dX12_number_98 (by decide) (fun c9 => absurd c9 (by decide)) (fun _ => ?_)
          refine lv_iconst (v := (-1)) hx hb dX12_number_101 (by decide) ?_
          refine lv_goto (tgt := 111) hx hb dX12_number_102 (by decide) ?_
          exact px_iret hx hb hr hlocks rfl (hW.pick (cs2 := []) [] (by decide) rfl) ⟨rfl, (pz_X12_number_4 n2 c1 c2 c3 c4), rfl⟩ (Nat.le_of_ble_eq_true rfl) (Nat.le_of_ble_eq_true rfl) dX12_number_111
      · refine lv_aload_n hx hb dX12_number_31 rfl (lv_at hl 1 rfl) ?_
        refine pq_get (own := RX12) (ci := 12) (C := RX12) (T := TX12) (N := 17) (k := 0) (v := .ref q1) hx hb hpp pi12 rfl hown hG hW 0 rfl E_h0 0 rfl (by decide) pp110 dX12_number_32 ?_
        refine pq_get (own := RX12) (ci := 8) (C := RX8) (T := TX8) (N := 21) (k := 3) (v := .ref q8) hx hb hpp pi8 rfl hown hG hW 1 rfl E_q1 3 rfl (by decide) pp117 dX12_number_35 ?_
        refine lv_astore_n (lv' := [(3, .ref q8), (0, .ref h0), (1, .int n1), (2, .int n2)]) hx hb dX12_number_38 rfl hl (by decide) rfl (fun ls hl => ?_)
        refine lv_goto (tgt := 77) hx hb dX12_number_39 (by decide) ?_
        refine lv_aload_n hx hb dX12_number_77 rfl (lv_at hl 1 rfl) ?_
        refine pq_get (own := RX12) (ci := 12) (C := RX12) (T := TX12) (N := 17) (k := 1) (v := .ref q23) hx hb hpp pi12 rfl hown hG hW 0 rfl E_h0 1 rfl (by decide) pp0 dX12_number_78 ?_
        refine pq_calll hW [2] [0, 1, 3] (by decide) rfl rfl (fun f9 hw9 hC9 => va_runV (C := RX9) (As := []) (rest := []) ⟨hx, hb, hml, hown, hts⟩ (c_X9_onlyName l D cy _ L f9 q23 F_q23 hC9 E_q23) (cwV 0 hts (pp_gV pp114 pp113 pp115 pp116 pp8) rfl rfl rfl pd_X9_onlyName ⟨Nat.le_of_ble_eq_true rfl, Nat.le_of_ble_eq_true rfl⟩) (pq_preV hG hw9 hC9 (j := 0) rfl rfl) rfl rfl hl.1 rfl (lv_room (Nat.le_of_ble_eq_true rfl)) dX12_number_81 ⟨Nat.le_of_ble_eq_true rfl, Nat.le_of_ble_eq_true rfl⟩) (fun r cs1 H locs hP hW => ?_)
        obtain ⟨F_q23, rfl, rfl, E_q23⟩ := hP
        have hW : pq_W D _ s.heap L f _ [(q23, .inr (9, F_q23)), (h0, .inr (12, F_h0)), (q1, .inr (8, F_q1)), (q8, .inr (4, F_q8))] H locs := hW
        refine lv_lstore (lv' := [(4, .long 0), (3, .ref q8), (0, .ref h0), (1, .int n1), (2, .int n2)]) hx hb dX12_number_84 hl (by decide) rfl (fun ls hl => ?_)
        refine lv_aload_n hx hb dX12_number_86 rfl (lv_at hl 2 rfl) ?_
        refine pq_get (own := RX12) (ci := 12) (C := RX12) (T := TX12) (N := 17) (k := 1) (v := .ref q23) hx hb hpp pi12 rfl hown hG hW 1 rfl E_h0 1 rfl (by decide) pp0 dX12_number_87 ?_
        refine lv_iconst (v := 0) hx hb dX12_number_90 (by decide) ?_
        refine pq_put (own := RX12) (ci := 9) (C := RX9) (T := TX9) (N := 10) (kv' := [(0, .ref q24), (1, .int 0), (5, .int 0), (6, .int 0), (7, .int 4)]) hx hb hpp pi9 tyX9 tyX9_ok nmX9 rfl hown hG hW 0 rfl E_q23 1 (by decide) rfl rfl rfl rfl pp1 dX12_number_91 (fun F_q23 H locs hW E_q23 => ?_)
        have hW : pq_W D _ s.heap L f _ [(q23, .inr (9, F_q23)), (h0, .inr (12, F_h0)), (q1, .inr (8, F_q1)), (q8, .inr (4, F_q8))] H locs := hW
        refine lv_lload hx hb dX12_number_94 (lv_at hl 0 rfl) ?_
        refine lv_lconst (v := 0) hx hb dX12_number_96 (by decide) ?_
        refine W.lcmp hx hb dX12_number_97 ?_
        refine pq_topi (y := 0) (by decide) ?_
        refine lv_if_ne (tgt := 105) hx hb dX12_number_98 (by decide) (fun c9 => absurd c9 (by decide)) (fun _ => ?_)
        refine lv_iconst (v := (-1)) hx hb dX12_number_101 (by decide) ?_
        refine lv_goto (tgt := 111) hx hb dX12_number_102 (by decide) ?_
        exact px_iret hx hb hr hlocks rfl (hW.pick (cs2 := []) [] (by decide) rfl) ⟨rfl, (pz_X12_number_5 n2 c1 c2 c3), rfl⟩ (Nat.le_of_ble_eq_true rfl) (Nat.le_of_ble_eq_true rfl) dX12_number_111
    · exact px_throwI (text := "no such what") (is := 143) hx hb hst hpp hown pp21 pp22 pi_at (by decide +kernel) hX (hW.pick (cs2 := []) [] (by decide) rfl) ⟨rfl, (pz_X12_number_6 n2 c1 c2), rfl⟩ (hl.1.trans hml.symm) dX12_number_9 dX12_number_12 dX12_number_13 dX12_number_15 dX12_number_18 hno (Nat.le_of_ble_eq_true rfl) (Nat.le_of_ble_eq_true rfl) (Nat.le_of_ble_eq_true rfl) (Nat.le_of_ble_eq_true rfl) hlocks (Nat.le_of_ble_eq_true rfl) (Nat.le_of_ble_eq_true rfl)
theorem pz_X1_tellAnalysis_1 (n1 : Int32) (c1 : ¬ n1 < 0) (c2 : n1 < 0) : False := by
  have k0 : (0 : Int32).toInt = 0 := by decide
  simp only [Int32.lt_iff_toInt_lt, Int32.le_iff_toInt_le, ← Int32.toInt_inj] at c1 c2 ⊢
  omega
set_option maxHeartbeats 4000000 in
set_option maxRecDepth 100000 in
/-- TongueHouse$Finder.tellAnalysis on a new object -/
theorem c_X1_tellAnalysis (l : Launch) (D : va_G) (cy : Nat → ClassId) (sz : Nat) (L : List Nat) (f : Nat → va_E) (q100 : Nat) (F_q100 : List Value) (n1 : Int32) (n2 : Int32) (hC : pq_C L f [(q100, .inr (1, F_q100))]) (E_q100 : pq_E 19 F_q100 [(2, .int 0), (4, .int 0), (9, .int 0), (14, .int 0)]) : Met l yX1_tellAnalysis (Cond.code yX1_tellAnalysis cX1_tellAnalysis 6 (some .int) :: pp_ws) ({ frames := 0, cells := 0, slots := 0, locals := 0 }) (pw_Pc D cy [.ref q100, .int n1, .int n2] sz L f) (pq_Qi D sz L f [q100] (fun r cs1 => (r = (-1) ∧ cs1 = [(q100, .inr (1, F_q100))]))) 0 0 (pw_A L f sz) := by
  refine Met.ofW (cc := cX1_tellAnalysis) (maxL := 6) (ret := (some .int)) (by decide) rfl ?_
  intro p e s m args below meth c s₁ B hml hv
  obtain ⟨rfl, hsz, hG, hP, hD0⟩ := hv
  have hx := B.exec
  have hb := B.bytes
  have hr := B.returns
  have hts := atoms_spec (ws := Cond.code yX1_tellAnalysis cX1_tellAnalysis 6 (some .int) :: pp_ws) B.pre
  have hpp := fun (w : Cond) (h : w ∈ pp_ws) => hts w (List.mem_cons_of_mem _ h)
  have hown : s.vm.findClass RX1 = some m.cls := findClass_of_methodNamed B.named
  have hlocks := B.notSynchronized
  have hw := pw_start (cy := cy) hsz hP hD0
  have hW := pq_start (as := [q100]) hw hC rfl
  have hl := lv_entry ([.ref q100, .int n1, .int n2]) (n := 6) (Nat.le_of_ble_eq_true rfl)
  rw [lg_entry_eq]
  generalize (lg_sl ([.ref q100, .int n1, .int n2]) ++ List.replicate (6 - (lg_sl ([.ref q100, .int n1, .int n2])).length) Slot.unset).toArray = ls at hl ⊢
  have hl : lv_has ls 6 [(0, .ref q100), (1, .int n1), (2, .int n2)] := hl
  refine lv_iload_n hx hb dX1_tellAnalysis_0 rfl (lv_at hl 1 rfl) ?_
  refine lv_if_lt (tgt := 12) hx hb dX1_tellAnalysis_1 (by decide) (fun c1 => ?_) (fun c1 => ?_)
  · refine lv_iconst (v := (-1)) hx hb dX1_tellAnalysis_12 (by decide) ?_
    exact pq_iret hx hb hr hlocks rfl hW ⟨rfl, rfl⟩ dX1_tellAnalysis_13
  · refine lv_iload_n hx hb dX1_tellAnalysis_4 rfl (lv_at hl 1 rfl) ?_
    refine lv_aload_n hx hb dX1_tellAnalysis_5 rfl (lv_at hl 0 rfl) ?_
    refine pq_get (own := RX1) (ci := 1) (C := RX1) (T := TX1) (N := 19) (k := 2) (v := .int 0) hx hb hpp pi1 rfl hown hG hW 0 rfl E_q100 0 rfl (by decide) pp126 dX1_tellAnalysis_6 ?_
    refine lv_icmp_lt (tgt := 14) hx hb dX1_tellAnalysis_9 (by decide) (fun c2 => (pz_X1_tellAnalysis_1 n1 c1 c2).elim) (fun _ => ?_)
    refine lv_iconst (v := (-1)) hx hb dX1_tellAnalysis_12 (by decide) ?_
    exact pq_iret hx hb hr hlocks rfl hW ⟨rfl, rfl⟩ dX1_tellAnalysis_13
theorem pz_X12_analysis_1 (n2 : Int32) (c1 : n2 < 0) : n2 < 0 ∨ 11 < n2 := by
  have k0 : (0 : Int32).toInt = 0 := by decide
  have k11 : (11 : Int32).toInt = 11 := by decide
  simp only [Int32.lt_iff_toInt_lt, Int32.le_iff_toInt_le, ← Int32.toInt_inj] at c1 ⊢
  omega
theorem pz_X12_analysis_2 (n2 : Int32) (c1 : ¬ n2 < 0) (c2 : n2 ≤ 11) : ¬ (n2 < 0 ∨ 11 < n2) := by
  have k0 : (0 : Int32).toInt = 0 := by decide
  have k11 : (11 : Int32).toInt = 11 := by decide
  simp only [Int32.lt_iff_toInt_lt, Int32.le_iff_toInt_le, ← Int32.toInt_inj] at c1 c2 ⊢
  omega
theorem pz_X12_analysis_3 (n2 : Int32) (c1 : ¬ n2 < 0) (c2 : ¬ n2 ≤ 11) : n2 < 0 ∨ 11 < n2 := by
  have k0 : (0 : Int32).toInt = 0 := by decide
  have k11 : (11 : Int32).toInt = 11 := by decide
  simp only [Int32.lt_iff_toInt_lt, Int32.le_iff_toInt_le, ← Int32.toInt_inj] at c1 c2 ⊢
  omega
set_option maxHeartbeats 4000000 in
set_option maxRecDepth 100000 in
/-- TongueHouse.analysis on a new object -/
theorem c_X12_analysis (l : Launch) (hst : l.stackTraces = false) (D : va_G) (cy : Nat → ClassId) (sa : Nat → Nat) (sz : Nat) (L : List Nat) (f : Nat → va_E) {q1 q23 q27 q39 q48 q61 q114 q115 : Nat} (h0 q100 : Nat) (F_h0 : List Value) (F_q100 : List Value) (n1 : Int32) (n2 : Int32) (hC : pq_C L f [(h0, .inr (12, F_h0)), (q100, .inr (1, F_q100))]) (E_h0 : pq_E 17 F_h0 [(0, .ref q1), (1, .ref q23), (2, .ref q27), (5, .ref q39), (6, .ref q48), (7, .ref q61), (10, .ref q100), (11, .ref q114), (12, .ref q115), (15, .int 0)]) (E_q100 : pq_E 19 F_q100 [(2, .int 0), (4, .int 0), (9, .int 0), (14, .int 0)]) : vx_Met l yX12_analysis (Cond.code yX12_analysis cX12_analysis 3 (some .int) :: pp_ws) ({ frames := 6, cells := 1, slots := 6, locals := 100 }) (px_Pc D cy sa [.ref h0, .int n1, .int n2] sz L f) (pq_Qi D sz L f [h0, q100] (fun r cs1 => r = (-1) ∧ ¬ (n2 < 0 ∨ 11 < n2) ∧ cs1 = [])) (pq_T D sz L f [h0, q100] (fun E9 cs1 => E9 = px_IAE ∧ (n2 < 0 ∨ 11 < n2) ∧ cs1 = [])) 1 6 (pw_A L f sz) := by
  refine vx_ofW (cc := cX12_analysis) (maxL := 3) (ret := (some .int)) (by decide) rfl ?_
  intro p e s m args below meth c s₁ B hml hno hv
  obtain ⟨rfl, hsz, hG, hX, hP, hD0⟩ := hv
  have hx := B.exec
  have hb := B.bytes
  have hr := B.returns
  have hts := atoms_spec (ws := Cond.code yX12_analysis cX12_analysis 3 (some .int) :: pp_ws) B.pre
  have hpp := fun (w : Cond) (h : w ∈ pp_ws) => hts w (List.mem_cons_of_mem _ h)
  have hown : s.vm.findClass RX12 = some m.cls := findClass_of_methodNamed B.named
  have hlocks := B.notSynchronized
  have hw := pw_start (cy := cy) hsz hP hD0
  have hW := pq_start (as := [h0, q100]) hw hC rfl
  have hl := lv_entry ([.ref h0, .int n1, .int n2]) (n := 3) (Nat.le_of_ble_eq_true rfl)
  rw [lg_entry_eq]
  generalize (lg_sl ([.ref h0, .int n1, .int n2]) ++ List.replicate (3 - (lg_sl ([.ref h0, .int n1, .int n2])).length) Slot.unset).toArray = ls at hl ⊢
  have hl : lv_has ls 3 [(0, .ref h0), (1, .int n1), (2, .int n2)] := hl
  refine lv_iload_n hx hb dX12_analysis_0 rfl (lv_at hl 2 rfl) ?_
  refine lv_if_lt (tgt := 10) hx hb dX12_analysis_1 (by decide) (fun c1 => ?_) (fun c1 => ?_)
  · exact px_throwI (text := "no such what") (is := 143) hx hb hst hpp hown pp21 pp22 pi_at (by decide +kernel) hX (hW.pick (cs2 := []) [] (by decide) rfl) ⟨rfl, (pz_X12_analysis_1 n2 c1), rfl⟩ (hl.1.trans hml.symm) dX12_analysis_10 dX12_analysis_13 dX12_analysis_14 dX12_analysis_16 dX12_analysis_19 hno (Nat.le_of_ble_eq_true rfl) (Nat.le_of_ble_eq_true rfl) (Nat.le_of_ble_eq_true rfl) (Nat.le_of_ble_eq_true rfl) hlocks (Nat.le_of_ble_eq_true rfl) (Nat.le_of_ble_eq_true rfl)
  · refine lv_iload_n hx hb dX12_analysis_4 rfl (lv_at hl 2 rfl) ?_
    refine lv_bipush (v := 11) hx hb dX12_analysis_5 (by decide) ?_
    refine lv_icmp_le (tgt := 20) hx hb dX12_analysis_7 (by decide) (fun c2 => ?_) (fun c2 => ?_)
    · refine lv_aload_n hx hb dX12_analysis_20 rfl (lv_at hl 0 rfl) ?_
      refine pq_get (own := RX12) (ci := 12) (C := RX12) (T := TX12) (N := 17) (k := 10) (v := .ref q100) hx hb hpp pi12 rfl hown hG hW 0 rfl E_h0 6 rfl (by decide) pp125 dX12_analysis_21 ?_
      refine lv_iload_n hx hb dX12_analysis_24 rfl (lv_at hl 1 rfl) ?_
      refine lv_iload_n hx hb dX12_analysis_25 rfl (lv_at hl 2 rfl) ?_
      refine pq_calli hW [1] [0] (by decide) rfl rfl (fun f9 hw9 hC9 => va_runV (C := RX1) (As := [.int n1, .int n2]) (rest := []) ⟨hx, hb, hml, hown, hts⟩ (c_X1_tellAnalysis l D cy _ L f9 q100 F_q100 n1 n2 hC9 E_q100) (cwV 2 hts (pp_gV pp128 pp127 pp129 pp130 pp131) rfl rfl rfl pd_X1_tellAnalysis ⟨Nat.le_of_ble_eq_true rfl, Nat.le_of_ble_eq_true rfl⟩) (pq_preV hG hw9 hC9 (j := 0) rfl rfl) rfl rfl hl.1 rfl (lv_room (Nat.le_of_ble_eq_true rfl)) dX12_analysis_26 ⟨Nat.le_of_ble_eq_true rfl, Nat.le_of_ble_eq_true rfl⟩) (fun r cs1 H locs hP hW => ?_)
      obtain ⟨rfl, rfl⟩ := hP
      have hW : pq_W D _ s.heap L f _ [(q100, .inr (1, F_q100)), (h0, .inr (12, F_h0))] H locs := hW
      exact px_iret hx hb hr hlocks rfl (hW.pick (cs2 := []) [] (by decide) rfl) ⟨rfl, (pz_X12_analysis_2 n2 c1 c2), rfl⟩ (Nat.le_of_ble_eq_true rfl) (Nat.le_of_ble_eq_true rfl) dX12_analysis_29
    · exact px_throwI (text := "no such what") (is := 143) hx hb hst hpp hown pp21 pp22 pi_at (by decide +kernel) hX (hW.pick (cs2 := []) [] (by decide) rfl) ⟨rfl, (pz_X12_analysis_3 n2 c1 c2), rfl⟩ (hl.1.trans hml.symm) dX12_analysis_10 dX12_analysis_13 dX12_analysis_14 dX12_analysis_16 dX12_analysis_19 hno (Nat.le_of_ble_eq_true rfl) (Nat.le_of_ble_eq_true rfl) (Nat.le_of_ble_eq_true rfl) (Nat.le_of_ble_eq_true rfl) hlocks (Nat.le_of_ble_eq_true rfl) (Nat.le_of_ble_eq_true rfl)
theorem pz_X1_tellGuess_1 (n1 : Int32) (c1 : ¬ n1 < 0) (c2 : n1 < 0) : False := by
  have k0 : (0 : Int32).toInt = 0 := by decide
  simp only [Int32.lt_iff_toInt_lt, Int32.le_iff_toInt_le, ← Int32.toInt_inj] at c1 c2 ⊢
  omega
set_option maxHeartbeats 4000000 in
set_option maxRecDepth 100000 in
/-- TongueHouse$Finder.tellGuess on a new object -/
theorem c_X1_tellGuess (l : Launch) (D : va_G) (cy : Nat → ClassId) (sz : Nat) (L : List Nat) (f : Nat → va_E) (q100 : Nat) (F_q100 : List Value) (n1 : Int32) (n2 : Int32) (hC : pq_C L f [(q100, .inr (1, F_q100))]) (E_q100 : pq_E 19 F_q100 [(2, .int 0), (4, .int 0), (9, .int 0), (14, .int 0)]) : Met l yX1_tellGuess (Cond.code yX1_tellGuess cX1_tellGuess 3 (some .int) :: pp_ws) ({ frames := 0, cells := 0, slots := 0, locals := 0 }) (pw_Pc D cy [.ref q100, .int n1, .int n2] sz L f) (pq_Qi D sz L f [q100] (fun r cs1 => (r = (-1) ∧ cs1 = [(q100, .inr (1, F_q100))]))) 0 0 (pw_A L f sz) := by
  refine Met.ofW (cc := cX1_tellGuess) (maxL := 3) (ret := (some .int)) (by decide) rfl ?_
  intro p e s m args below meth c s₁ B hml hv
  obtain ⟨rfl, hsz, hG, hP, hD0⟩ := hv
  have hx := B.exec
  have hb := B.bytes
  have hr := B.returns
  have hts := atoms_spec (ws := Cond.code yX1_tellGuess cX1_tellGuess 3 (some .int) :: pp_ws) B.pre
  have hpp := fun (w : Cond) (h : w ∈ pp_ws) => hts w (List.mem_cons_of_mem _ h)
  have hown : s.vm.findClass RX1 = some m.cls := findClass_of_methodNamed B.named
  have hlocks := B.notSynchronized
  have hw := pw_start (cy := cy) hsz hP hD0
  have hW := pq_start (as := [q100]) hw hC rfl
  have hl := lv_entry ([.ref q100, .int n1, .int n2]) (n := 3) (Nat.le_of_ble_eq_true rfl)
  rw [lg_entry_eq]
  generalize (lg_sl ([.ref q100, .int n1, .int n2]) ++ List.replicate (3 - (lg_sl ([.ref q100, .int n1, .int n2])).length) Slot.unset).toArray = ls at hl ⊢
  have hl : lv_has ls 3 [(0, .ref q100), (1, .int n1), (2, .int n2)] := hl
  refine lv_iload_n hx hb dX1_tellGuess_0 rfl (lv_at hl 1 rfl) ?_
  refine lv_if_lt (tgt := 12) hx hb dX1_tellGuess_1 (by decide) (fun c1 => ?_) (fun c1 => ?_)
  · refine lv_iconst (v := (-1)) hx hb dX1_tellGuess_12 (by decide) ?_
    exact pq_iret hx hb hr hlocks rfl hW ⟨rfl, rfl⟩ dX1_tellGuess_13
  · refine lv_iload_n hx hb dX1_tellGuess_4 rfl (lv_at hl 1 rfl) ?_
    refine lv_aload_n hx hb dX1_tellGuess_5 rfl (lv_at hl 0 rfl) ?_
    refine pq_get (own := RX1) (ci := 1) (C := RX1) (T := TX1) (N := 19) (k := 4) (v := .int 0) hx hb hpp pi1 rfl hown hG hW 0 rfl E_q100 1 rfl (by decide) pp133 dX1_tellGuess_6 ?_
    refine lv_icmp_lt (tgt := 14) hx hb dX1_tellGuess_9 (by decide) (fun c2 => (pz_X1_tellGuess_1 n1 c1 c2).elim) (fun _ => ?_)
    refine lv_iconst (v := (-1)) hx hb dX1_tellGuess_12 (by decide) ?_
    exact pq_iret hx hb hr hlocks rfl hW ⟨rfl, rfl⟩ dX1_tellGuess_13
theorem pz_X12_guessed_1 (n2 : Int32) (c1 : n2 < 0) : n2 < 0 ∨ 3 < n2 := by
  have k0 : (0 : Int32).toInt = 0 := by decide
  have k3 : (3 : Int32).toInt = 3 := by decide
  simp only [Int32.lt_iff_toInt_lt, Int32.le_iff_toInt_le, ← Int32.toInt_inj] at c1 ⊢
  omega
theorem pz_X12_guessed_2 (n2 : Int32) (c1 : ¬ n2 < 0) (c2 : n2 ≤ 3) : ¬ (n2 < 0 ∨ 3 < n2) := by
  have k0 : (0 : Int32).toInt = 0 := by decide
  have k3 : (3 : Int32).toInt = 3 := by decide
  simp only [Int32.lt_iff_toInt_lt, Int32.le_iff_toInt_le, ← Int32.toInt_inj] at c1 c2 ⊢
  omega
theorem pz_X12_guessed_3 (n2 : Int32) (c1 : ¬ n2 < 0) (c2 : ¬ n2 ≤ 3) : n2 < 0 ∨ 3 < n2 := by
  have k0 : (0 : Int32).toInt = 0 := by decide
  have k3 : (3 : Int32).toInt = 3 := by decide
  simp only [Int32.lt_iff_toInt_lt, Int32.le_iff_toInt_le, ← Int32.toInt_inj] at c1 c2 ⊢
  omega
set_option maxHeartbeats 4000000 in
set_option maxRecDepth 100000 in
/-- TongueHouse.guessed on a new object -/
theorem c_X12_guessed (l : Launch) (hst : l.stackTraces = false) (D : va_G) (cy : Nat → ClassId) (sa : Nat → Nat) (sz : Nat) (L : List Nat) (f : Nat → va_E) {q1 q23 q27 q39 q48 q61 q114 q115 : Nat} (h0 q100 : Nat) (F_h0 : List Value) (F_q100 : List Value) (n1 : Int32) (n2 : Int32) (hC : pq_C L f [(h0, .inr (12, F_h0)), (q100, .inr (1, F_q100))]) (E_h0 : pq_E 17 F_h0 [(0, .ref q1), (1, .ref q23), (2, .ref q27), (5, .ref q39), (6, .ref q48), (7, .ref q61), (10, .ref q100), (11, .ref q114), (12, .ref q115), (15, .int 0)]) (E_q100 : pq_E 19 F_q100 [(2, .int 0), (4, .int 0), (9, .int 0), (14, .int 0)]) : vx_Met l yX12_guessed (Cond.code yX12_guessed cX12_guessed 3 (some .int) :: pp_ws) ({ frames := 6, cells := 1, slots := 6, locals := 100 }) (px_Pc D cy sa [.ref h0, .int n1, .int n2] sz L f) (pq_Qi D sz L f [h0, q100] (fun r cs1 => r = (-1) ∧ ¬ (n2 < 0 ∨ 3 < n2) ∧ cs1 = [])) (pq_T D sz L f [h0, q100] (fun E9 cs1 => E9 = px_IAE ∧ (n2 < 0 ∨ 3 < n2) ∧ cs1 = [])) 1 6 (pw_A L f sz) := by
  refine vx_ofW (cc := cX12_guessed) (maxL := 3) (ret := (some .int)) (by decide) rfl ?_
  intro p e s m args below meth c s₁ B hml hno hv
  obtain ⟨rfl, hsz, hG, hX, hP, hD0⟩ := hv
  have hx := B.exec
  have hb := B.bytes
  have hr := B.returns
  have hts := atoms_spec (ws := Cond.code yX12_guessed cX12_guessed 3 (some .int) :: pp_ws) B.pre
  have hpp := fun (w : Cond) (h : w ∈ pp_ws) => hts w (List.mem_cons_of_mem _ h)
  have hown : s.vm.findClass RX12 = some m.cls := findClass_of_methodNamed B.named
  have hlocks := B.notSynchronized
  have hw := pw_start (cy := cy) hsz hP hD0
  have hW := pq_start (as := [h0, q100]) hw hC rfl
  have hl := lv_entry ([.ref h0, .int n1, .int n2]) (n := 3) (Nat.le_of_ble_eq_true rfl)
  rw [lg_entry_eq]
  generalize (lg_sl ([.ref h0, .int n1, .int n2]) ++ List.replicate (3 - (lg_sl ([.ref h0, .int n1, .int n2])).length) Slot.unset).toArray = ls at hl ⊢
  have hl : lv_has ls 3 [(0, .ref h0), (1, .int n1), (2, .int n2)] := hl
  refine lv_iload_n hx hb dX12_guessed_0 rfl (lv_at hl 2 rfl) ?_
  refine lv_if_lt (tgt := 9) hx hb dX12_guessed_1 (by decide) (fun c1 => ?_) (fun c1 => ?_)
  · exact px_throwI (text := "no such what") (is := 143) hx hb hst hpp hown pp21 pp22 pi_at (by decide +kernel) hX (hW.pick (cs2 := []) [] (by decide) rfl) ⟨rfl, (pz_X12_guessed_1 n2 c1), rfl⟩ (hl.1.trans hml.symm) dX12_guessed_9 dX12_guessed_12 dX12_guessed_13 dX12_guessed_15 dX12_guessed_18 hno (Nat.le_of_ble_eq_true rfl) (Nat.le_of_ble_eq_true rfl) (Nat.le_of_ble_eq_true rfl) (Nat.le_of_ble_eq_true rfl) hlocks (Nat.le_of_ble_eq_true rfl) (Nat.le_of_ble_eq_true rfl)
  · refine lv_iload_n hx hb dX12_guessed_4 rfl (lv_at hl 2 rfl) ?_
    refine lv_iconst (v := 3) hx hb dX12_guessed_5 (by decide) ?_
    refine lv_icmp_le (tgt := 19) hx hb dX12_guessed_6 (by decide) (fun c2 => ?_) (fun c2 => ?_)
    · refine lv_aload_n hx hb dX12_guessed_19 rfl (lv_at hl 0 rfl) ?_
      refine pq_get (own := RX12) (ci := 12) (C := RX12) (T := TX12) (N := 17) (k := 10) (v := .ref q100) hx hb hpp pi12 rfl hown hG hW 0 rfl E_h0 6 rfl (by decide) pp125 dX12_guessed_20 ?_
      refine lv_iload_n hx hb dX12_guessed_23 rfl (lv_at hl 1 rfl) ?_
      refine lv_iload_n hx hb dX12_guessed_24 rfl (lv_at hl 2 rfl) ?_
      refine pq_calli hW [1] [0] (by decide) rfl rfl (fun f9 hw9 hC9 => va_runV (C := RX1) (As := [.int n1, .int n2]) (rest := []) ⟨hx, hb, hml, hown, hts⟩ (c_X1_tellGuess l D cy _ L f9 q100 F_q100 n1 n2 hC9 E_q100) (cwV 2 hts (pp_gV pp135 pp134 pp136 pp137 pp131) rfl rfl rfl pd_X1_tellGuess ⟨Nat.le_of_ble_eq_true rfl, Nat.le_of_ble_eq_true rfl⟩) (pq_preV hG hw9 hC9 (j := 0) rfl rfl) rfl rfl hl.1 rfl (lv_room (Nat.le_of_ble_eq_true rfl)) dX12_guessed_25 ⟨Nat.le_of_ble_eq_true rfl, Nat.le_of_ble_eq_true rfl⟩) (fun r cs1 H locs hP hW => ?_)
      obtain ⟨rfl, rfl⟩ := hP
      have hW : pq_W D _ s.heap L f _ [(q100, .inr (1, F_q100)), (h0, .inr (12, F_h0))] H locs := hW
      exact px_iret hx hb hr hlocks rfl (hW.pick (cs2 := []) [] (by decide) rfl) ⟨rfl, (pz_X12_guessed_2 n2 c1 c2), rfl⟩ (Nat.le_of_ble_eq_true rfl) (Nat.le_of_ble_eq_true rfl) dX12_guessed_28
    · exact px_throwI (text := "no such what") (is := 143) hx hb hst hpp hown pp21 pp22 pi_at (by decide +kernel) hX (hW.pick (cs2 := []) [] (by decide) rfl) ⟨rfl, (pz_X12_guessed_3 n2 c1 c2), rfl⟩ (hl.1.trans hml.symm) dX12_guessed_9 dX12_guessed_12 dX12_guessed_13 dX12_guessed_15 dX12_guessed_18 hno (Nat.le_of_ble_eq_true rfl) (Nat.le_of_ble_eq_true rfl) (Nat.le_of_ble_eq_true rfl) (Nat.le_of_ble_eq_true rfl) hlocks (Nat.le_of_ble_eq_true rfl) (Nat.le_of_ble_eq_true rfl)
theorem pz_X1_tellHit_1 (n1 : Int32) (c1 : ¬ n1 < 0) (c2 : n1 < 0) : False := by
  have k0 : (0 : Int32).toInt = 0 := by decide
  simp only [Int32.lt_iff_toInt_lt, Int32.le_iff_toInt_le, ← Int32.toInt_inj] at c1 c2 ⊢
  omega
set_option maxHeartbeats 4000000 in
set_option maxRecDepth 100000 in
/-- TongueHouse$Finder.tellHit on a new object -/
theorem c_X1_tellHit (l : Launch) (D : va_G) (cy : Nat → ClassId) (sz : Nat) (L : List Nat) (f : Nat → va_E) (q100 : Nat) (F_q100 : List Value) (n1 : Int32) (n2 : Int32) (hC : pq_C L f [(q100, .inr (1, F_q100))]) (E_q100 : pq_E 19 F_q100 [(2, .int 0), (4, .int 0), (9, .int 0), (14, .int 0)]) : Met l yX1_tellHit (Cond.code yX1_tellHit cX1_tellHit 3 (some .int) :: pp_ws) ({ frames := 0, cells := 0, slots := 0, locals := 0 }) (pw_Pc D cy [.ref q100, .int n1, .int n2] sz L f) (pq_Qi D sz L f [q100] (fun r cs1 => (r = (-1) ∧ cs1 = [(q100, .inr (1, F_q100))]))) 0 0 (pw_A L f sz) := by
  refine Met.ofW (cc := cX1_tellHit) (maxL := 3) (ret := (some .int)) (by decide) rfl ?_
  intro p e s m args below meth c s₁ B hml hv
  obtain ⟨rfl, hsz, hG, hP, hD0⟩ := hv
  have hx := B.exec
  have hb := B.bytes
  have hr := B.returns
  have hts := atoms_spec (ws := Cond.code yX1_tellHit cX1_tellHit 3 (some .int) :: pp_ws) B.pre
  have hpp := fun (w : Cond) (h : w ∈ pp_ws) => hts w (List.mem_cons_of_mem _ h)
  have hown : s.vm.findClass RX1 = some m.cls := findClass_of_methodNamed B.named
  have hlocks := B.notSynchronized
  have hw := pw_start (cy := cy) hsz hP hD0
  have hW := pq_start (as := [q100]) hw hC rfl
  have hl := lv_entry ([.ref q100, .int n1, .int n2]) (n := 3) (Nat.le_of_ble_eq_true rfl)
  rw [lg_entry_eq]
  generalize (lg_sl ([.ref q100, .int n1, .int n2]) ++ List.replicate (3 - (lg_sl ([.ref q100, .int n1, .int n2])).length) Slot.unset).toArray = ls at hl ⊢
  have hl : lv_has ls 3 [(0, .ref q100), (1, .int n1), (2, .int n2)] := hl
  refine lv_iload_n hx hb dX1_tellHit_0 rfl (lv_at hl 1 rfl) ?_
  refine lv_if_lt (tgt := 12) hx hb dX1_tellHit_1 (by decide) (fun c1 => ?_) (fun c1 => ?_)
  · refine lv_iconst (v := (-1)) hx hb dX1_tellHit_12 (by decide) ?_
    exact pq_iret hx hb hr hlocks rfl hW ⟨rfl, rfl⟩ dX1_tellHit_13
  · refine lv_iload_n hx hb dX1_tellHit_4 rfl (lv_at hl 1 rfl) ?_
    refine lv_aload_n hx hb dX1_tellHit_5 rfl (lv_at hl 0 rfl) ?_
    refine pq_get (own := RX1) (ci := 1) (C := RX1) (T := TX1) (N := 19) (k := 14) (v := .int 0) hx hb hpp pi1 rfl hown hG hW 0 rfl E_q100 3 rfl (by decide) pp139 dX1_tellHit_6 ?_
    refine lv_icmp_lt (tgt := 14) hx hb dX1_tellHit_9 (by decide) (fun c2 => (pz_X1_tellHit_1 n1 c1 c2).elim) (fun _ => ?_)
    refine lv_iconst (v := (-1)) hx hb dX1_tellHit_12 (by decide) ?_
    exact pq_iret hx hb hr hlocks rfl hW ⟨rfl, rfl⟩ dX1_tellHit_13
theorem pz_X12_hit_1 (n2 : Int32) (c1 : n2 < 0) : n2 < 0 ∨ 1 < n2 := by
  have k0 : (0 : Int32).toInt = 0 := by decide
  have k1 : (1 : Int32).toInt = 1 := by decide
  simp only [Int32.lt_iff_toInt_lt, Int32.le_iff_toInt_le, ← Int32.toInt_inj] at c1 ⊢
  omega
theorem pz_X12_hit_2 (n2 : Int32) (c1 : ¬ n2 < 0) (c2 : n2 ≤ 1) : ¬ (n2 < 0 ∨ 1 < n2) := by
  have k0 : (0 : Int32).toInt = 0 := by decide
  have k1 : (1 : Int32).toInt = 1 := by decide
  simp only [Int32.lt_iff_toInt_lt, Int32.le_iff_toInt_le, ← Int32.toInt_inj] at c1 c2 ⊢
  omega
theorem pz_X12_hit_3 (n2 : Int32) (c1 : ¬ n2 < 0) (c2 : ¬ n2 ≤ 1) : n2 < 0 ∨ 1 < n2 := by
  have k0 : (0 : Int32).toInt = 0 := by decide
  have k1 : (1 : Int32).toInt = 1 := by decide
  simp only [Int32.lt_iff_toInt_lt, Int32.le_iff_toInt_le, ← Int32.toInt_inj] at c1 c2 ⊢
  omega
set_option maxHeartbeats 4000000 in
set_option maxRecDepth 100000 in
/-- TongueHouse.hit on a new object -/
theorem c_X12_hit (l : Launch) (hst : l.stackTraces = false) (D : va_G) (cy : Nat → ClassId) (sa : Nat → Nat) (sz : Nat) (L : List Nat) (f : Nat → va_E) {q1 q23 q27 q39 q48 q61 q114 q115 : Nat} (h0 q100 : Nat) (F_h0 : List Value) (F_q100 : List Value) (n1 : Int32) (n2 : Int32) (hC : pq_C L f [(h0, .inr (12, F_h0)), (q100, .inr (1, F_q100))]) (E_h0 : pq_E 17 F_h0 [(0, .ref q1), (1, .ref q23), (2, .ref q27), (5, .ref q39), (6, .ref q48), (7, .ref q61), (10, .ref q100), (11, .ref q114), (12, .ref q115), (15, .int 0)]) (E_q100 : pq_E 19 F_q100 [(2, .int 0), (4, .int 0), (9, .int 0), (14, .int 0)]) : vx_Met l yX12_hit (Cond.code yX12_hit cX12_hit 3 (some .int) :: pp_ws) ({ frames := 6, cells := 1, slots := 6, locals := 100 }) (px_Pc D cy sa [.ref h0, .int n1, .int n2] sz L f) (pq_Qi D sz L f [h0, q100] (fun r cs1 => r = (-1) ∧ ¬ (n2 < 0 ∨ 1 < n2) ∧ cs1 = [])) (pq_T D sz L f [h0, q100] (fun E9 cs1 => E9 = px_IAE ∧ (n2 < 0 ∨ 1 < n2) ∧ cs1 = [])) 1 6 (pw_A L f sz) := by
  refine vx_ofW (cc := cX12_hit) (maxL := 3) (ret := (some .int)) (by decide) rfl ?_
  intro p e s m args below meth c s₁ B hml hno hv
  obtain ⟨rfl, hsz, hG, hX, hP, hD0⟩ := hv
  have hx := B.exec
  have hb := B.bytes
  have hr := B.returns
  have hts := atoms_spec (ws := Cond.code yX12_hit cX12_hit 3 (some .int) :: pp_ws) B.pre
  have hpp := fun (w : Cond) (h : w ∈ pp_ws) => hts w (List.mem_cons_of_mem _ h)
  have hown : s.vm.findClass RX12 = some m.cls := findClass_of_methodNamed B.named
  have hlocks := B.notSynchronized
  have hw := pw_start (cy := cy) hsz hP hD0
  have hW := pq_start (as := [h0, q100]) hw hC rfl
  have hl := lv_entry ([.ref h0, .int n1, .int n2]) (n := 3) (Nat.le_of_ble_eq_true rfl)
  rw [lg_entry_eq]
  generalize (lg_sl ([.ref h0, .int n1, .int n2]) ++ List.replicate (3 - (lg_sl ([.ref h0, .int n1, .int n2])).length) Slot.unset).toArray = ls at hl ⊢
  have hl : lv_has ls 3 [(0, .ref h0), (1, .int n1), (2, .int n2)] := hl
  refine lv_iload_n hx hb dX12_hit_0 rfl (lv_at hl 2 rfl) ?_
  refine lv_if_lt (tgt := 9) hx hb dX12_hit_1 (by decide) (fun c1 => ?_) (fun c1 => ?_)
  · exact px_throwI (text := "no such what") (is := 143) hx hb hst hpp hown pp21 pp22 pi_at (by decide +kernel) hX (hW.pick (cs2 := []) [] (by decide) rfl) ⟨rfl, (pz_X12_hit_1 n2 c1), rfl⟩ (hl.1.trans hml.symm) dX12_hit_9 dX12_hit_12 dX12_hit_13 dX12_hit_15 dX12_hit_18 hno (Nat.le_of_ble_eq_true rfl) (Nat.le_of_ble_eq_true rfl) (Nat.le_of_ble_eq_true rfl) (Nat.le_of_ble_eq_true rfl) hlocks (Nat.le_of_ble_eq_true rfl) (Nat.le_of_ble_eq_true rfl)
  · refine lv_iload_n hx hb dX12_hit_4 rfl (lv_at hl 2 rfl) ?_
    refine lv_iconst (v := 1) hx hb dX12_hit_5 (by decide) ?_
    refine lv_icmp_le (tgt := 19) hx hb dX12_hit_6 (by decide) (fun c2 => ?_) (fun c2 => ?_)
    · refine lv_aload_n hx hb dX12_hit_19 rfl (lv_at hl 0 rfl) ?_
      refine pq_get (own := RX12) (ci := 12) (C := RX12) (T := TX12) (N := 17) (k := 10) (v := .ref q100) hx hb hpp pi12 rfl hown hG hW 0 rfl E_h0 6 rfl (by decide) pp125 dX12_hit_20 ?_
      refine lv_iload_n hx hb dX12_hit_23 rfl (lv_at hl 1 rfl) ?_
      refine lv_iload_n hx hb dX12_hit_24 rfl (lv_at hl 2 rfl) ?_
      refine pq_calli hW [1] [0] (by decide) rfl rfl (fun f9 hw9 hC9 => va_runV (C := RX1) (As := [.int n1, .int n2]) (rest := []) ⟨hx, hb, hml, hown, hts⟩ (c_X1_tellHit l D cy _ L f9 q100 F_q100 n1 n2 hC9 E_q100) (cwV 2 hts (pp_gV pp141 pp140 pp142 pp143 pp131) rfl rfl rfl pd_X1_tellHit ⟨Nat.le_of_ble_eq_true rfl, Nat.le_of_ble_eq_true rfl⟩) (pq_preV hG hw9 hC9 (j := 0) rfl rfl) rfl rfl hl.1 rfl (lv_room (Nat.le_of_ble_eq_true rfl)) dX12_hit_25 ⟨Nat.le_of_ble_eq_true rfl, Nat.le_of_ble_eq_true rfl⟩) (fun r cs1 H locs hP hW => ?_)
      obtain ⟨rfl, rfl⟩ := hP
      have hW : pq_W D _ s.heap L f _ [(q100, .inr (1, F_q100)), (h0, .inr (12, F_h0))] H locs := hW
      exact px_iret hx hb hr hlocks rfl (hW.pick (cs2 := []) [] (by decide) rfl) ⟨rfl, (pz_X12_hit_2 n2 c1 c2), rfl⟩ (Nat.le_of_ble_eq_true rfl) (Nat.le_of_ble_eq_true rfl) dX12_hit_28
    · exact px_throwI (text := "no such what") (is := 143) hx hb hst hpp hown pp21 pp22 pi_at (by decide +kernel) hX (hW.pick (cs2 := []) [] (by decide) rfl) ⟨rfl, (pz_X12_hit_3 n2 c1 c2), rfl⟩ (hl.1.trans hml.symm) dX12_hit_9 dX12_hit_12 dX12_hit_13 dX12_hit_15 dX12_hit_18 hno (Nat.le_of_ble_eq_true rfl) (Nat.le_of_ble_eq_true rfl) (Nat.le_of_ble_eq_true rfl) (Nat.le_of_ble_eq_true rfl) hlocks (Nat.le_of_ble_eq_true rfl) (Nat.le_of_ble_eq_true rfl)
