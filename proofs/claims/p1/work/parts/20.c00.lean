theorem pz_X9_put_1 (z : Int32) (hz : ¬ z < 0) (hy : z < 1000) (c1 : 1000 ≤ z) : False := by
  have k0 : (0 : Int32).toInt = 0 := by decide
  have k1000 : (1000 : Int32).toInt = 1000 := by decide
  simp only [Int32.lt_iff_toInt_lt, Int32.le_iff_toInt_le, ← Int32.toInt_inj] at hz hy c1 ⊢
  omega
theorem pz_X9_put_2 (z : Int32) (hz : ¬ z < 0) (hy : z < 1000) : vp_in z 1000 := by
  refine vp_in_iff.mpr ?_
  have k0 : (0 : Int32).toInt = 0 := by decide
  have k1000 : (1000 : Int32).toInt = 1000 := by decide
  simp only [Int32.lt_iff_toInt_lt, Int32.le_iff_toInt_le, ← Int32.toInt_inj] at hz hy
  omega
set_option maxHeartbeats 4000000 in
set_option maxRecDepth 100000 in
/-- TongueHouse$Text.put on a new object -/
theorem c_X9_put (l : Launch) (D : va_G) (cy : Nat → ClassId) (sz : Nat) (L : List Nat) (f : Nat → va_E) (q23 q24 : Nat) (F_q23 : List Value) (g_q24 : Nat → Int32) (n1 : Int32) (z z1 : Int32) (hz : ¬ z < 0) (hy : z < 1000) (hz3 : z + 1 = z1) (hC : pq_C L f [(q23, .inr (9, F_q23)), (q24, .inl (cy 0, 1000, .inl g_q24))]) (E_q23 : pq_E 10 F_q23 [(0, .ref q24), (1, .int z), (5, .int 0), (6, .int 0), (7, .int 0)]) : Met l yX9_put (Cond.code yX9_put cX9_put 2 none :: pp_ws) ({ frames := 0, cells := 0, slots := 0, locals := 0 }) (pw_Pc D cy [.ref q23, .int n1] sz L f) (pq_Qv D sz L f [q23, q24] (fun cs1 => (∃ (F_q23 : List Value) (g_q24 : Nat → Int32), cs1 = [(q23, .inr (9, F_q23)), (q24, .inl (cy 0, 1000, .inl g_q24))] ∧ pq_E 10 F_q23 [(0, .ref q24), (1, .int z1), (5, .int 0), (6, .int 0), (7, .int 0)]))) 0 0 (pw_A L f sz) := by
  refine Met.ofW (cc := cX9_put) (maxL := 2) (ret := none) (by decide) rfl ?_
  intro p e s m args below meth c s₁ B hml hv
  obtain ⟨rfl, hsz, hG, hP, hD0⟩ := hv
  have hx := B.exec
  have hb := B.bytes
  have hr := B.returns
  have hts := atoms_spec (ws := Cond.code yX9_put cX9_put 2 none :: pp_ws) B.pre
  have hpp := fun (w : Cond) (h : w ∈ pp_ws) => hts w (List.mem_cons_of_mem _ h)
  have hown : s.vm.findClass RX9 = some m.cls := findClass_of_methodNamed B.named
  have hlocks := B.notSynchronized
  have hw := pw_start (cy := cy) hsz hP hD0
  have hW := pq_start (as := [q23, q24]) hw hC rfl
  have hl := lv_entry ([.ref q23, .int n1]) (n := 2) (Nat.le_of_ble_eq_true rfl)
  rw [lg_entry_eq]
  generalize (lg_sl ([.ref q23, .int n1]) ++ List.replicate (2 - (lg_sl ([.ref q23, .int n1])).length) Slot.unset).toArray = ls at hl ⊢
  have hl : lv_has ls 2 [(0, .ref q23), (1, .int n1)] := hl
  refine lv_aload_n hx hb dX9_put_0 rfl (lv_at hl 0 rfl) ?_
  refine pq_get (own := RX9) (ci := 9) (C := RX9) (T := TX9) (N := 10) (k := 1) (v := .int z) hx hb hpp pi9 rfl hown hG hW 0 rfl E_q23 1 rfl (by decide) pp2 dX9_put_1 ?_
  refine lv_sipush (v := 1000) hx hb dX9_put_4 (by decide) ?_
  refine lv_icmp_ge (tgt := 28) hx hb dX9_put_7 (by decide) (fun c1 => (pz_X9_put_1 z hz hy c1).elim) (fun _ => ?_)
  refine lv_aload_n hx hb dX9_put_10 rfl (lv_at hl 0 rfl) ?_
  refine pq_get (own := RX9) (ci := 9) (C := RX9) (T := TX9) (N := 10) (k := 0) (v := .ref q24) hx hb hpp pi9 rfl hown hG hW 0 rfl E_q23 0 rfl (by decide) pp3 dX9_put_11 ?_
  refine lv_aload_n hx hb dX9_put_14 rfl (lv_at hl 0 rfl) ?_
  refine lv_dup hx hb dX9_put_15 rfl ?_
  refine pq_get (own := RX9) (ci := 9) (C := RX9) (T := TX9) (N := 10) (k := 1) (v := .int z) hx hb hpp pi9 rfl hown hG hW 0 rfl E_q23 1 rfl (by decide) pp2 dX9_put_16 ?_
  refine lv_dup_x1 hx hb dX9_put_19 rfl rfl ?_
  refine lv_iconst (v := 1) hx hb dX9_put_20 (by decide) ?_
  refine lv_iadd hx hb dX9_put_21 ?_
  refine pq_topi (y := z1) hz3 ?_
  refine pq_put (own := RX9) (ci := 9) (C := RX9) (T := TX9) (N := 10) (kv' := [(0, .ref q24), (1, .int z1), (5, .int 0), (6, .int 0), (7, .int 0)]) hx hb hpp pi9 tyX9 tyX9_ok nmX9 rfl hown hG hW 0 rfl E_q23 1 (by decide) rfl rfl rfl rfl pp2 dX9_put_22 (fun F_q23 H locs hW E_q23 => ?_)
  have hW : pq_W D _ s.heap L f _ [(q23, .inr (9, F_q23)), (q24, .inl (cy 0, 1000, .inl g_q24))] H locs := hW
  refine lv_iload_n hx hb dX9_put_25 rfl (lv_at hl 1 rfl) ?_
  refine lv_i2b hx hb dX9_put_26 rfl ?_
  refine lv_topi (fun y3 _ => ?_)
  refine pq_bast hx hb hG hW 1 rfl (pz_X9_put_2 z hz hy) dX9_put_27 (fun H locs hW => ?_)
  have hW : pq_W D _ s.heap L f _ [(q23, .inr (9, F_q23)), (q24, .inl (cy 0, 1000, .inl _))] H locs := hW
  exact pq_vret hx hb hr hlocks hW ⟨_, _, rfl, E_q23⟩ dX9_put_28
set_option maxHeartbeats 4000000 in
set_option maxRecDepth 100000 in
/-- TongueHouse$Text.putFour on a new object -/
theorem c_X9_putFour (l : Launch) (D : va_G) (cy : Nat → ClassId) (sz : Nat) (L : List Nat) (f : Nat → va_E) (q23 q24 : Nat) (F_q23 : List Value) (g_q24 : Nat → Int32) (n1 : Int32) (hC : pq_C L f [(q23, .inr (9, F_q23)), (q24, .inl (cy 0, 1000, .inl g_q24))]) (E_q23 : pq_E 10 F_q23 [(0, .ref q24), (1, .int 0), (5, .int 0), (6, .int 0), (7, .int 0)]) : Met l yX9_putFour (Cond.code yX9_putFour cX9_putFour 2 none :: pp_ws) ({ frames := 1, cells := 0, slots := 0, locals := 21 }) (pw_Pc D cy [.ref q23, .int n1] sz L f) (pq_Qv D sz L f [q23, q24] (fun cs1 => (∃ (F_q23 : List Value) (g_q24 : Nat → Int32), cs1 = [(q23, .inr (9, F_q23)), (q24, .inl (cy 0, 1000, .inl g_q24))] ∧ pq_E 10 F_q23 [(0, .ref q24), (1, .int 4), (5, .int 0), (6, .int 0), (7, .int 0)]))) 0 0 (pw_A L f sz) := by
  refine Met.ofW (cc := cX9_putFour) (maxL := 2) (ret := none) (by decide) rfl ?_
  intro p e s m args below meth c s₁ B hml hv
  obtain ⟨rfl, hsz, hG, hP, hD0⟩ := hv
  have hx := B.exec
  have hb := B.bytes
  have hr := B.returns
  have hts := atoms_spec (ws := Cond.code yX9_putFour cX9_putFour 2 none :: pp_ws) B.pre
  have hpp := fun (w : Cond) (h : w ∈ pp_ws) => hts w (List.mem_cons_of_mem _ h)
  have hown : s.vm.findClass RX9 = some m.cls := findClass_of_methodNamed B.named
  have hlocks := B.notSynchronized
  have hw := pw_start (cy := cy) hsz hP hD0
  have hW := pq_start (as := [q23, q24]) hw hC rfl
  have hl := lv_entry ([.ref q23, .int n1]) (n := 2) (Nat.le_of_ble_eq_true rfl)
  rw [lg_entry_eq]
  generalize (lg_sl ([.ref q23, .int n1]) ++ List.replicate (2 - (lg_sl ([.ref q23, .int n1])).length) Slot.unset).toArray = ls at hl ⊢
  have hl : lv_has ls 2 [(0, .ref q23), (1, .int n1)] := hl
  refine lv_aload_n hx hb dX9_putFour_0 rfl (lv_at hl 0 rfl) ?_
  refine lv_iload_n hx hb dX9_putFour_1 rfl (lv_at hl 1 rfl) ?_
  refine lv_bipush (v := 24) hx hb dX9_putFour_2 (by decide) ?_
  refine lv_ishr hx hb dX9_putFour_4 ?_
  refine lv_topi (fun y6 _ => ?_)
  refine pq_callv hW [0, 1] [] (by decide) rfl rfl (fun f9 hw9 hC9 => va_runV (C := RX9) (As := [.int y6]) (rest := []) ⟨hx, hb, hml, hown, hts⟩ (c_X9_put l D cy _ L f9 q23 q24 F_q23 _ y6 0 1 (by decide) (by decide) (by decide) hC9 E_q23) (cwV 1 hts (pp_gV pp5 pp4 pp6 pp7 pp8) rfl rfl rfl pd_X9_put ⟨Nat.le_of_ble_eq_true rfl, Nat.le_of_ble_eq_true rfl⟩) (pq_preV hG hw9 hC9 (j := 0) rfl rfl) rfl rfl hl.1 rfl (lv_room (Nat.le_of_ble_eq_true rfl)) dX9_putFour_5 ⟨Nat.le_of_ble_eq_true rfl, Nat.le_of_ble_eq_true rfl⟩) (fun cs1 H locs hP hW => ?_)
  obtain ⟨F_q23, g_q24, rfl, E_q23⟩ := hP
  have hW : pq_W D _ s.heap L f _ [(q23, .inr (9, F_q23)), (q24, .inl (cy 0, 1000, .inl _))] H locs := hW
  refine lv_aload_n hx hb dX9_putFour_8 rfl (lv_at hl 0 rfl) ?_
  refine lv_iload_n hx hb dX9_putFour_9 rfl (lv_at hl 1 rfl) ?_
  refine lv_bipush (v := 16) hx hb dX9_putFour_10 (by decide) ?_
  refine lv_ishr hx hb dX9_putFour_12 ?_
  refine lv_topi (fun y7 _ => ?_)
  refine pq_callv hW [0, 1] [] (by decide) rfl rfl (fun f9 hw9 hC9 => va_runV (C := RX9) (As := [.int y7]) (rest := []) ⟨hx, hb, hml, hown, hts⟩ (c_X9_put l D cy _ L f9 q23 q24 F_q23 _ y7 1 2 (by decide) (by decide) (by decide) hC9 E_q23) (cwV 1 hts (pp_gV pp5 pp4 pp6 pp7 pp8) rfl rfl rfl pd_X9_put ⟨Nat.le_of_ble_eq_true rfl, Nat.le_of_ble_eq_true rfl⟩) (pq_preV hG hw9 hC9 (j := 0) rfl rfl) rfl rfl hl.1 rfl (lv_room (Nat.le_of_ble_eq_true rfl)) dX9_putFour_13 ⟨Nat.le_of_ble_eq_true rfl, Nat.le_of_ble_eq_true rfl⟩) (fun cs1 H locs hP hW => ?_)
  obtain ⟨F_q23, g_q24, rfl, E_q23⟩ := hP
  have hW : pq_W D _ s.heap L f _ [(q23, .inr (9, F_q23)), (q24, .inl (cy 0, 1000, .inl _))] H locs := hW
  refine lv_aload_n hx hb dX9_putFour_16 rfl (lv_at hl 0 rfl) ?_
  refine lv_iload_n hx hb dX9_putFour_17 rfl (lv_at hl 1 rfl) ?_
  refine lv_bipush (v := 8) hx hb dX9_putFour_18 (by decide) ?_
  refine lv_ishr hx hb dX9_putFour_20 ?_
  refine lv_topi (fun y8 _ => ?_)
  refine pq_callv hW [0, 1] [] (by decide) rfl rfl (fun f9 hw9 hC9 => va_runV (C := RX9) (As := [.int y8]) (rest := []) ⟨hx, hb, hml, hown, hts⟩ (c_X9_put l D cy _ L f9 q23 q24 F_q23 _ y8 2 3 (by decide) (by decide) (by decide) hC9 E_q23) (cwV 1 hts (pp_gV pp5 pp4 pp6 pp7 pp8) rfl rfl rfl pd_X9_put ⟨Nat.le_of_ble_eq_true rfl, Nat.le_of_ble_eq_true rfl⟩) (pq_preV hG hw9 hC9 (j := 0) rfl rfl) rfl rfl hl.1 rfl (lv_room (Nat.le_of_ble_eq_true rfl)) dX9_putFour_21 ⟨Nat.le_of_ble_eq_true rfl, Nat.le_of_ble_eq_true rfl⟩) (fun cs1 H locs hP hW => ?_)
  obtain ⟨F_q23, g_q24, rfl, E_q23⟩ := hP
  have hW : pq_W D _ s.heap L f _ [(q23, .inr (9, F_q23)), (q24, .inl (cy 0, 1000, .inl _))] H locs := hW
  refine lv_aload_n hx hb dX9_putFour_24 rfl (lv_at hl 0 rfl) ?_
  refine lv_iload_n hx hb dX9_putFour_25 rfl (lv_at hl 1 rfl) ?_
  refine pq_callv hW [0, 1] [] (by decide) rfl rfl (fun f9 hw9 hC9 => va_runV (C := RX9) (As := [.int n1]) (rest := []) ⟨hx, hb, hml, hown, hts⟩ (c_X9_put l D cy _ L f9 q23 q24 F_q23 _ n1 3 4 (by decide) (by decide) (by decide) hC9 E_q23) (cwV 1 hts (pp_gV pp5 pp4 pp6 pp7 pp8) rfl rfl rfl pd_X9_put ⟨Nat.le_of_ble_eq_true rfl, Nat.le_of_ble_eq_true rfl⟩) (pq_preV hG hw9 hC9 (j := 0) rfl rfl) rfl rfl hl.1 rfl (lv_room (Nat.le_of_ble_eq_true rfl)) dX9_putFour_26 ⟨Nat.le_of_ble_eq_true rfl, Nat.le_of_ble_eq_true rfl⟩) (fun cs1 H locs hP hW => ?_)
  obtain ⟨F_q23, g_q24, rfl, E_q23⟩ := hP
  have hW : pq_W D _ s.heap L f _ [(q23, .inr (9, F_q23)), (q24, .inl (cy 0, 1000, .inl _))] H locs := hW
  exact pq_vret hx hb hr hlocks hW ⟨_, _, rfl, E_q23⟩ dX9_putFour_29
set_option maxHeartbeats 4000000 in
set_option maxRecDepth 100000 in
/-- TongueHouse$Text.putFour on a new object -/
theorem c_X9_putFour_1 (l : Launch) (D : va_G) (cy : Nat → ClassId) (sz : Nat) (L : List Nat) (f : Nat → va_E) (q23 q24 : Nat) (F_q23 : List Value) (g_q24 : Nat → Int32) (n1 : Int32) (hC : pq_C L f [(q23, .inr (9, F_q23)), (q24, .inl (cy 0, 1000, .inl g_q24))]) (E_q23 : pq_E 10 F_q23 [(0, .ref q24), (1, .int 4), (5, .int 0), (6, .int 0), (7, .int 0)]) : Met l yX9_putFour (Cond.code yX9_putFour cX9_putFour 2 none :: pp_ws) ({ frames := 1, cells := 0, slots := 0, locals := 21 }) (pw_Pc D cy [.ref q23, .int n1] sz L f) (pq_Qv D sz L f [q23, q24] (fun cs1 => (∃ (F_q23 : List Value) (g_q24 : Nat → Int32), cs1 = [(q23, .inr (9, F_q23)), (q24, .inl (cy 0, 1000, .inl g_q24))] ∧ pq_E 10 F_q23 [(0, .ref q24), (1, .int 8), (5, .int 0), (6, .int 0), (7, .int 0)]))) 0 0 (pw_A L f sz) := by
  refine Met.ofW (cc := cX9_putFour) (maxL := 2) (ret := none) (by decide) rfl ?_
  intro p e s m args below meth c s₁ B hml hv
  obtain ⟨rfl, hsz, hG, hP, hD0⟩ := hv
  have hx := B.exec
  have hb := B.bytes
  have hr := B.returns
  have hts := atoms_spec (ws := Cond.code yX9_putFour cX9_putFour 2 none :: pp_ws) B.pre
  have hpp := fun (w : Cond) (h : w ∈ pp_ws) => hts w (List.mem_cons_of_mem _ h)
  have hown : s.vm.findClass RX9 = some m.cls := findClass_of_methodNamed B.named
  have hlocks := B.notSynchronized
  have hw := pw_start (cy := cy) hsz hP hD0
  have hW := pq_start (as := [q23, q24]) hw hC rfl
  have hl := lv_entry ([.ref q23, .int n1]) (n := 2) (Nat.le_of_ble_eq_true rfl)
  rw [lg_entry_eq]
  generalize (lg_sl ([.ref q23, .int n1]) ++ List.replicate (2 - (lg_sl ([.ref q23, .int n1])).length) Slot.unset).toArray = ls at hl ⊢
  have hl : lv_has ls 2 [(0, .ref q23), (1, .int n1)] := hl
  refine lv_aload_n hx hb dX9_putFour_0 rfl (lv_at hl 0 rfl) ?_
  refine lv_iload_n hx hb dX9_putFour_1 rfl (lv_at hl 1 rfl) ?_
  refine lv_bipush (v := 24) hx hb dX9_putFour_2 (by decide) ?_
  refine lv_ishr hx hb dX9_putFour_4 ?_
  refine lv_topi (fun y12 _ => ?_)
  refine pq_callv hW [0, 1] [] (by decide) rfl rfl (fun f9 hw9 hC9 => va_runV (C := RX9) (As := [.int y12]) (rest := []) ⟨hx, hb, hml, hown, hts⟩ (c_X9_put l D cy _ L f9 q23 q24 F_q23 _ y12 4 5 (by decide) (by decide) (by decide) hC9 E_q23) (cwV 1 hts (pp_gV pp5 pp4 pp6 pp7 pp8) rfl rfl rfl pd_X9_put ⟨Nat.le_of_ble_eq_true rfl, Nat.le_of_ble_eq_true rfl⟩) (pq_preV hG hw9 hC9 (j := 0) rfl rfl) rfl rfl hl.1 rfl (lv_room (Nat.le_of_ble_eq_true rfl)) dX9_putFour_5 ⟨Nat.le_of_ble_eq_true rfl, Nat.le_of_ble_eq_true rfl⟩) (fun cs1 H locs hP hW => ?_)
  obtain ⟨F_q23, g_q24, rfl, E_q23⟩ := hP
  have hW : pq_W D _ s.heap L f _ [(q23, .inr (9, F_q23)), (q24, .inl (cy 0, 1000, .inl _))] H locs := hW
  refine lv_aload_n hx hb dX9_putFour_8 rfl (lv_at hl 0 rfl) ?_
  refine lv_iload_n hx hb dX9_putFour_9 rfl (lv_at hl 1 rfl) ?_
  refine lv_bipush (v := 16) hx hb dX9_putFour_10 (by decide) ?_
  refine lv_ishr hx hb dX9_putFour_12 ?_
  refine lv_topi (fun y13 _ => ?_)
  refine pq_callv hW [0, 1] [] (by decide) rfl rfl (fun f9 hw9 hC9 => va_runV (C := RX9) (As := [.int y13]) (rest := []) ⟨hx, hb, hml, hown, hts⟩ (c_X9_put l D cy _ L f9 q23 q24 F_q23 _ y13 5 6 (by decide) (by decide) (by decide) hC9 E_q23) (cwV 1 hts (pp_gV pp5 pp4 pp6 pp7 pp8) rfl rfl rfl pd_X9_put ⟨Nat.le_of_ble_eq_true rfl, Nat.le_of_ble_eq_true rfl⟩) (pq_preV hG hw9 hC9 (j := 0) rfl rfl) rfl rfl hl.1 rfl (lv_room (Nat.le_of_ble_eq_true rfl)) dX9_putFour_13 ⟨Nat.le_of_ble_eq_true rfl, Nat.le_of_ble_eq_true rfl⟩) (fun cs1 H locs hP hW => ?_)
  obtain ⟨F_q23, g_q24, rfl, E_q23⟩ := hP
  have hW : pq_W D _ s.heap L f _ [(q23, .inr (9, F_q23)), (q24, .inl (cy 0, 1000, .inl _))] H locs := hW
  refine lv_aload_n hx hb dX9_putFour_16 rfl (lv_at hl 0 rfl) ?_
  refine lv_iload_n hx hb dX9_putFour_17 rfl (lv_at hl 1 rfl) ?_
  refine lv_bipush (v := 8) hx hb dX9_putFour_18 (by decide) ?_
  refine lv_ishr hx hb dX9_putFour_20 ?_
  refine lv_topi (fun y14 _ => ?_)
  refine pq_callv hW [0, 1] [] (by decide) rfl rfl (fun f9 hw9 hC9 => va_runV (C := RX9) (As := [.int y14]) (rest := []) ⟨hx, hb, hml, hown, hts⟩ (c_X9_put l D cy _ L f9 q23 q24 F_q23 _ y14 6 7 (by decide) (by decide) (by decide) hC9 E_q23) (cwV 1 hts (pp_gV pp5 pp4 pp6 pp7 pp8) rfl rfl rfl pd_X9_put ⟨Nat.le_of_ble_eq_true rfl, Nat.le_of_ble_eq_true rfl⟩) (pq_preV hG hw9 hC9 (j := 0) rfl rfl) rfl rfl hl.1 rfl (lv_room (Nat.le_of_ble_eq_true rfl)) dX9_putFour_21 ⟨Nat.le_of_ble_eq_true rfl, Nat.le_of_ble_eq_true rfl⟩) (fun cs1 H locs hP hW => ?_)
  obtain ⟨F_q23, g_q24, rfl, E_q23⟩ := hP
  have hW : pq_W D _ s.heap L f _ [(q23, .inr (9, F_q23)), (q24, .inl (cy 0, 1000, .inl _))] H locs := hW
  refine lv_aload_n hx hb dX9_putFour_24 rfl (lv_at hl 0 rfl) ?_
  refine lv_iload_n hx hb dX9_putFour_25 rfl (lv_at hl 1 rfl) ?_
  refine pq_callv hW [0, 1] [] (by decide) rfl rfl (fun f9 hw9 hC9 => va_runV (C := RX9) (As := [.int n1]) (rest := []) ⟨hx, hb, hml, hown, hts⟩ (c_X9_put l D cy _ L f9 q23 q24 F_q23 _ n1 7 8 (by decide) (by decide) (by decide) hC9 E_q23) (cwV 1 hts (pp_gV pp5 pp4 pp6 pp7 pp8) rfl rfl rfl pd_X9_put ⟨Nat.le_of_ble_eq_true rfl, Nat.le_of_ble_eq_true rfl⟩) (pq_preV hG hw9 hC9 (j := 0) rfl rfl) rfl rfl hl.1 rfl (lv_room (Nat.le_of_ble_eq_true rfl)) dX9_putFour_26 ⟨Nat.le_of_ble_eq_true rfl, Nat.le_of_ble_eq_true rfl⟩) (fun cs1 H locs hP hW => ?_)
  obtain ⟨F_q23, g_q24, rfl, E_q23⟩ := hP
  have hW : pq_W D _ s.heap L f _ [(q23, .inr (9, F_q23)), (q24, .inl (cy 0, 1000, .inl _))] H locs := hW
  exact pq_vret hx hb hr hlocks hW ⟨_, _, rfl, E_q23⟩ dX9_putFour_29
set_option maxHeartbeats 4000000 in
set_option maxRecDepth 100000 in
/-- TongueHouse$Text.putFour on a new object -/
theorem c_X9_putFour_2 (l : Launch) (D : va_G) (cy : Nat → ClassId) (sz : Nat) (L : List Nat) (f : Nat → va_E) (q23 q24 : Nat) (F_q23 : List Value) (g_q24 : Nat → Int32) (n1 : Int32) (hC : pq_C L f [(q23, .inr (9, F_q23)), (q24, .inl (cy 0, 1000, .inl g_q24))]) (E_q23 : pq_E 10 F_q23 [(0, .ref q24), (1, .int 8), (5, .int 0), (6, .int 0), (7, .int 0)]) : Met l yX9_putFour (Cond.code yX9_putFour cX9_putFour 2 none :: pp_ws) ({ frames := 1, cells := 0, slots := 0, locals := 21 }) (pw_Pc D cy [.ref q23, .int n1] sz L f) (pq_Qv D sz L f [q23, q24] (fun cs1 => (∃ (F_q23 : List Value) (g_q24 : Nat → Int32), cs1 = [(q23, .inr (9, F_q23)), (q24, .inl (cy 0, 1000, .inl g_q24))] ∧ pq_E 10 F_q23 [(0, .ref q24), (1, .int 12), (5, .int 0), (6, .int 0), (7, .int 0)]))) 0 0 (pw_A L f sz) := by
  refine Met.ofW (cc := cX9_putFour) (maxL := 2) (ret := none) (by decide) rfl ?_
  intro p e s m args below meth c s₁ B hml hv
  obtain ⟨rfl, hsz, hG, hP, hD0⟩ := hv
  have hx := B.exec
  have hb := B.bytes
  have hr := B.returns
  have hts := atoms_spec (ws := Cond.code yX9_putFour cX9_putFour 2 none :: pp_ws) B.pre
  have hpp := fun (w : Cond) (h : w ∈ pp_ws) => hts w (List.mem_cons_of_mem _ h)
  have hown : s.vm.findClass RX9 = some m.cls := findClass_of_methodNamed B.named
  have hlocks := B.notSynchronized
  have hw := pw_start (cy := cy) hsz hP hD0
  have hW := pq_start (as := [q23, q24]) hw hC rfl
  have hl := lv_entry ([.ref q23, .int n1]) (n := 2) (Nat.le_of_ble_eq_true rfl)
  rw [lg_entry_eq]
  generalize (lg_sl ([.ref q23, .int n1]) ++ List.replicate (2 - (lg_sl ([.ref q23, .int n1])).length) Slot.unset).toArray = ls at hl ⊢
  have hl : lv_has ls 2 [(0, .ref q23), (1, .int n1)] := hl
  refine lv_aload_n hx hb dX9_putFour_0 rfl (lv_at hl 0 rfl) ?_
  refine lv_iload_n hx hb dX9_putFour_1 rfl (lv_at hl 1 rfl) ?_
  refine lv_bipush (v := 24) hx hb dX9_putFour_2 (by decide) ?_
  refine lv_ishr hx hb dX9_putFour_4 ?_
  refine lv_topi (fun y18 _ => ?_)
  refine pq_callv hW [0, 1] [] (by decide) rfl rfl (fun f9 hw9 hC9 => va_runV (C := RX9) (As := [.int y18]) (rest := []) ⟨hx, hb, hml, hown, hts⟩ (c_X9_put l D cy _ L f9 q23 q24 F_q23 _ y18 8 9 (by decide) (by decide) (by decide) hC9 E_q23) (cwV 1 hts (pp_gV pp5 pp4 pp6 pp7 pp8) rfl rfl rfl pd_X9_put ⟨Nat.le_of_ble_eq_true rfl, Nat.le_of_ble_eq_true rfl⟩) (pq_preV hG hw9 hC9 (j := 0) rfl rfl) rfl rfl hl.1 rfl (lv_room (Nat.le_of_ble_eq_true rfl)) dX9_putFour_5 ⟨Nat.le_of_ble_eq_true rfl, Nat.le_of_ble_eq_true rfl⟩) (fun cs1 H locs hP hW => ?_)
  obtain ⟨F_q23, g_q24, rfl, E_q23⟩ := hP
  have hW : pq_W D _ s.heap L f _ [(q23, .inr (9, F_q23)), (q24, .inl (cy 0, 1000, .inl _))] H locs := hW
  refine lv_aload_n hx hb dX9_putFour_8 rfl (lv_at hl 0 rfl) ?_
  refine lv_iload_n hx hb dX9_putFour_9 rfl (lv_at hl 1 rfl) ?_
  refine lv_bipush (v := 16) hx hb dX9_putFour_10 (by decide) ?_
  refine lv_ishr hx hb dX9_putFour_12 ?_
  refine lv_topi (fun y19 _ => ?_)
  refine pq_callv hW [0, 1] [] (by decide) rfl rfl (fun f9 hw9 hC9 => va_runV (C := RX9) (As := [.int y19]) (rest := []) ⟨hx, hb, hml, hown, hts⟩ (c_X9_put l D cy _ L f9 q23 q24 F_q23 _ y19 9 10 (by decide) (by decide) (by decide) hC9 E_q23) (cwV 1 hts (pp_gV pp5 pp4 pp6 pp7 pp8) rfl rfl rfl pd_X9_put ⟨Nat.le_of_ble_eq_true rfl, Nat.le_of_ble_eq_true rfl⟩) (pq_preV hG hw9 hC9 (j := 0) rfl rfl) rfl rfl hl.1 rfl (lv_room (Nat.le_of_ble_eq_true rfl)) dX9_putFour_13 ⟨Nat.le_of_ble_eq_true rfl, Nat.le_of_ble_eq_true rfl⟩) (fun cs1 H locs hP hW => ?_)
  obtain ⟨F_q23, g_q24, rfl, E_q23⟩ := hP
  have hW : pq_W D _ s.heap L f _ [(q23, .inr (9, F_q23)), (q24, .inl (cy 0, 1000, .inl _))] H locs := hW
  refine lv_aload_n hx hb dX9_putFour_16 rfl (lv_at hl 0 rfl) ?_
  refine lv_iload_n hx hb dX9_putFour_17 rfl (lv_at hl 1 rfl) ?_
  refine lv_bipush (v := 8) hx hb dX9_putFour_18 (by decide) ?_
  refine lv_ishr hx hb dX9_putFour_20 ?_
  refine lv_topi (fun y20 _ => ?_)
  refine pq_callv hW [0, 1] [] (by decide) rfl rfl (fun f9 hw9 hC9 => va_runV (C := RX9) (As := [.int y20]) (rest := []) ⟨hx, hb, hml, hown, hts⟩ (c_X9_put l D cy _ L f9 q23 q24 F_q23 _ y20 10 11 (by decide) (by decide) (by decide) hC9 E_q23) (cwV 1 hts (pp_gV pp5 pp4 pp6 pp7 pp8) rfl rfl rfl pd_X9_put ⟨Nat.le_of_ble_eq_true rfl, Nat.le_of_ble_eq_true rfl⟩) (pq_preV hG hw9 hC9 (j := 0) rfl rfl) rfl rfl hl.1 rfl (lv_room (Nat.le_of_ble_eq_true rfl)) dX9_putFour_21 ⟨Nat.le_of_ble_eq_true rfl, Nat.le_of_ble_eq_true rfl⟩) (fun cs1 H locs hP hW => ?_)
  obtain ⟨F_q23, g_q24, rfl, E_q23⟩ := hP
  have hW : pq_W D _ s.heap L f _ [(q23, .inr (9, F_q23)), (q24, .inl (cy 0, 1000, .inl _))] H locs := hW
  refine lv_aload_n hx hb dX9_putFour_24 rfl (lv_at hl 0 rfl) ?_
  refine lv_iload_n hx hb dX9_putFour_25 rfl (lv_at hl 1 rfl) ?_
  refine pq_callv hW [0, 1] [] (by decide) rfl rfl (fun f9 hw9 hC9 => va_runV (C := RX9) (As := [.int n1]) (rest := []) ⟨hx, hb, hml, hown, hts⟩ (c_X9_put l D cy _ L f9 q23 q24 F_q23 _ n1 11 12 (by decide) (by decide) (by decide) hC9 E_q23) (cwV 1 hts (pp_gV pp5 pp4 pp6 pp7 pp8) rfl rfl rfl pd_X9_put ⟨Nat.le_of_ble_eq_true rfl, Nat.le_of_ble_eq_true rfl⟩) (pq_preV hG hw9 hC9 (j := 0) rfl rfl) rfl rfl hl.1 rfl (lv_room (Nat.le_of_ble_eq_true rfl)) dX9_putFour_26 ⟨Nat.le_of_ble_eq_true rfl, Nat.le_of_ble_eq_true rfl⟩) (fun cs1 H locs hP hW => ?_)
  obtain ⟨F_q23, g_q24, rfl, E_q23⟩ := hP
  have hW : pq_W D _ s.heap L f _ [(q23, .inr (9, F_q23)), (q24, .inl (cy 0, 1000, .inl _))] H locs := hW
  exact pq_vret hx hb hr hlocks hW ⟨_, _, rfl, E_q23⟩ dX9_putFour_29
set_option maxHeartbeats 4000000 in
set_option maxRecDepth 100000 in
/-- TongueHouse$Text.putFour on a new object -/
theorem c_X9_putFour_3 (l : Launch) (D : va_G) (cy : Nat → ClassId) (sz : Nat) (L : List Nat) (f : Nat → va_E) (q23 q24 : Nat) (F_q23 : List Value) (g_q24 : Nat → Int32) (n1 : Int32) (hC : pq_C L f [(q23, .inr (9, F_q23)), (q24, .inl (cy 0, 1000, .inl g_q24))]) (E_q23 : pq_E 10 F_q23 [(0, .ref q24), (1, .int 12), (5, .int 0), (6, .int 0), (7, .int 0)]) : Met l yX9_putFour (Cond.code yX9_putFour cX9_putFour 2 none :: pp_ws) ({ frames := 1, cells := 0, slots := 0, locals := 21 }) (pw_Pc D cy [.ref q23, .int n1] sz L f) (pq_Qv D sz L f [q23, q24] (fun cs1 => (∃ (F_q23 : List Value) (g_q24 : Nat → Int32), cs1 = [(q23, .inr (9, F_q23)), (q24, .inl (cy 0, 1000, .inl g_q24))] ∧ pq_E 10 F_q23 [(0, .ref q24), (1, .int 16), (5, .int 0), (6, .int 0), (7, .int 0)]))) 0 0 (pw_A L f sz) := by
  refine Met.ofW (cc := cX9_putFour) (maxL := 2) (ret := none) (by decide) rfl ?_
  intro p e s m args below meth c s₁ B hml hv
  obtain ⟨rfl, hsz, hG, hP, hD0⟩ := hv
  have hx := B.exec
  have hb := B.bytes
  have hr := B.returns
  have hts := atoms_spec (ws := Cond.code yX9_putFour cX9_putFour 2 none :: pp_ws) B.pre
  have hpp := fun (w : Cond) (h : w ∈ pp_ws) => hts w (List.mem_cons_of_mem _ h)
  have hown : s.vm.findClass RX9 = some m.cls := findClass_of_methodNamed B.named
  have hlocks := B.notSynchronized
  have hw := pw_start (cy := cy) hsz hP hD0
  have hW := pq_start (as := [q23, q24]) hw hC rfl
  have hl := lv_entry ([.ref q23, .int n1]) (n := 2) (Nat.le_of_ble_eq_true rfl)
  rw [lg_entry_eq]
  generalize (lg_sl ([.ref q23, .int n1]) ++ List.replicate (2 - (lg_sl ([.ref q23, .int n1])).length) Slot.unset).toArray = ls at hl ⊢
  have hl : lv_has ls 2 [(0, .ref q23), (1, .int n1)] := hl
  refine lv_aload_n hx hb dX9_putFour_0 rfl (lv_at hl 0 rfl) ?_
  refine lv_iload_n hx hb dX9_putFour_1 rfl (lv_at hl 1 rfl) ?_
  refine lv_bipush (v := 24) hx hb dX9_putFour_2 (by decide) ?_
  refine lv_ishr hx hb dX9_putFour_4 ?_
  refine lv_topi (fun y24 _ => ?_)
  refine pq_callv hW [0, 1] [] (by decide) rfl rfl (fun f9 hw9 hC9 => va_runV (C := RX9) (As := [.int y24]) (rest := []) ⟨hx, hb, hml, hown, hts⟩ (c_X9_put l D cy _ L f9 q23 q24 F_q23 _ y24 12 13 (by decide) (by decide) (by decide) hC9 E_q23) (cwV 1 hts (pp_gV pp5 pp4 pp6 pp7 pp8) rfl rfl rfl pd_X9_put ⟨Nat.le_of_ble_eq_true rfl, Nat.le_of_ble_eq_true rfl⟩) (pq_preV hG hw9 hC9 (j := 0) rfl rfl) rfl rfl hl.1 rfl (lv_room (Nat.le_of_ble_eq_true rfl)) dX9_putFour_5 ⟨Nat.le_of_ble_eq_true rfl, Nat.le_of_ble_eq_true rfl⟩) (fun cs1 H locs hP hW => ?_)
  obtain ⟨F_q23, g_q24, rfl, E_q23⟩ := hP
  have hW : pq_W D _ s.heap L f _ [(q23, .inr (9, F_q23)), (q24, .inl (cy 0, 1000, .inl _))] H locs := hW
  refine lv_aload_n hx hb dX9_putFour_8 rfl (lv_at hl 0 rfl) ?_
  refine lv_iload_n hx hb dX9_putFour_9 rfl (lv_at hl 1 rfl) ?_
  refine lv_bipush (v := 16) hx hb dX9_putFour_10 (by decide) ?_
  refine lv_ishr hx hb dX9_putFour_12 ?_
  refine lv_topi (fun y25 _ => ?_)
  refine pq_callv hW [0, 1] [] (by decide) rfl rfl (fun f9 hw9 hC9 => va_runV (C := RX9) (As := [.int y25]) (rest := []) ⟨hx, hb, hml, hown, hts⟩ (c_X9_put l D cy _ L f9 q23 q24 F_q23 _ y25 13 14 (by decide) (by decide) (by decide) hC9 E_q23) (cwV 1 hts (pp_gV pp5 pp4 pp6 pp7 pp8) rfl rfl rfl pd_X9_put ⟨Nat.le_of_ble_eq_true rfl, Nat.le_of_ble_eq_true rfl⟩) (pq_preV hG hw9 hC9 (j := 0) rfl rfl) rfl rfl hl.1 rfl (lv_room (Nat.le_of_ble_eq_true rfl)) dX9_putFour_13 ⟨Nat.le_of_ble_eq_true rfl, Nat.le_of_ble_eq_true rfl⟩) (fun cs1 H locs hP hW => ?_)
  obtain ⟨F_q23, g_q24, rfl, E_q23⟩ := hP
  have hW : pq_W D _ s.heap L f _ [(q23, .inr (9, F_q23)), (q24, .inl (cy 0, 1000, .inl _))] H locs := hW
  refine lv_aload_n hx hb dX9_putFour_16 rfl (lv_at hl 0 rfl) ?_
  refine lv_iload_n hx hb dX9_putFour_17 rfl (lv_at hl 1 rfl) ?_
  refine lv_bipush (v := 8) hx hb dX9_putFour_18 (by decide) ?_
  refine lv_ishr hx hb dX9_putFour_20 ?_
  refine lv_topi (fun y26 _ => ?_)
  refine pq_callv hW [0, 1] [] (by decide) rfl rfl (fun f9 hw9 hC9 => va_runV (C := RX9) (As := [.int y26]) (rest := []) ⟨hx, hb, hml, hown, hts⟩ (c_X9_put l D cy _ L f9 q23 q24 F_q23 _ y26 14 15 (by decide) (by decide) (by decide) hC9 E_q23) (cwV 1 hts (pp_gV pp5 pp4 pp6 pp7 pp8) rfl rfl rfl pd_X9_put ⟨Nat.le_of_ble_eq_true rfl, Nat.le_of_ble_eq_true rfl⟩) (pq_preV hG hw9 hC9 (j := 0) rfl rfl) rfl rfl hl.1 rfl (lv_room (Nat.le_of_ble_eq_true rfl)) dX9_putFour_21 ⟨Nat.le_of_ble_eq_true rfl, Nat.le_of_ble_eq_true rfl⟩) (fun cs1 H locs hP hW => ?_)
  obtain ⟨F_q23, g_q24, rfl, E_q23⟩ := hP
  have hW : pq_W D _ s.heap L f _ [(q23, .inr (9, F_q23)), (q24, .inl (cy 0, 1000, .inl _))] H locs := hW
  refine lv_aload_n hx hb dX9_putFour_24 rfl (lv_at hl 0 rfl) ?_
  refine lv_iload_n hx hb dX9_putFour_25 rfl (lv_at hl 1 rfl) ?_
  refine pq_callv hW [0, 1] [] (by decide) rfl rfl (fun f9 hw9 hC9 => va_runV (C := RX9) (As := [.int n1]) (rest := []) ⟨hx, hb, hml, hown, hts⟩ (c_X9_put l D cy _ L f9 q23 q24 F_q23 _ n1 15 16 (by decide) (by decide) (by decide) hC9 E_q23) (cwV 1 hts (pp_gV pp5 pp4 pp6 pp7 pp8) rfl rfl rfl pd_X9_put ⟨Nat.le_of_ble_eq_true rfl, Nat.le_of_ble_eq_true rfl⟩) (pq_preV hG hw9 hC9 (j := 0) rfl rfl) rfl rfl hl.1 rfl (lv_room (Nat.le_of_ble_eq_true rfl)) dX9_putFour_26 ⟨Nat.le_of_ble_eq_true rfl, Nat.le_of_ble_eq_true rfl⟩) (fun cs1 H locs hP hW => ?_)
  obtain ⟨F_q23, g_q24, rfl, E_q23⟩ := hP
  have hW : pq_W D _ s.heap L f _ [(q23, .inr (9, F_q23)), (q24, .inl (cy 0, 1000, .inl _))] H locs := hW
  exact pq_vret hx hb hr hlocks hW ⟨_, _, rfl, E_q23⟩ dX9_putFour_29
set_option maxHeartbeats 4000000 in
set_option maxRecDepth 100000 in
/-- TongueHouse$Text.putFour on a new object -/
theorem c_X9_putFour_4 (l : Launch) (D : va_G) (cy : Nat → ClassId) (sz : Nat) (L : List Nat) (f : Nat → va_E) (q23 q24 : Nat) (F_q23 : List Value) (g_q24 : Nat → Int32) (n1 : Int32) (hC : pq_C L f [(q23, .inr (9, F_q23)), (q24, .inl (cy 0, 1000, .inl g_q24))]) (E_q23 : pq_E 10 F_q23 [(0, .ref q24), (1, .int 16), (5, .int 0), (6, .int 0), (7, .int 0)]) : Met l yX9_putFour (Cond.code yX9_putFour cX9_putFour 2 none :: pp_ws) ({ frames := 1, cells := 0, slots := 0, locals := 21 }) (pw_Pc D cy [.ref q23, .int n1] sz L f) (pq_Qv D sz L f [q23, q24] (fun cs1 => (∃ (F_q23 : List Value) (g_q24 : Nat → Int32), cs1 = [(q23, .inr (9, F_q23)), (q24, .inl (cy 0, 1000, .inl g_q24))] ∧ pq_E 10 F_q23 [(0, .ref q24), (1, .int 20), (5, .int 0), (6, .int 0), (7, .int 0)]))) 0 0 (pw_A L f sz) := by
  refine Met.ofW (cc := cX9_putFour) (maxL := 2) (ret := none) (by decide) rfl ?_
  intro p e s m args below meth c s₁ B hml hv
  obtain ⟨rfl, hsz, hG, hP, hD0⟩ := hv
  have hx := B.exec
  have hb := B.bytes
  have hr := B.returns
  have hts := atoms_spec (ws := Cond.code yX9_putFour cX9_putFour 2 none :: pp_ws) B.pre
  have hpp := fun (w : Cond) (h : w ∈ pp_ws) => hts w (List.mem_cons_of_mem _ h)
  have hown : s.vm.findClass RX9 = some m.cls := findClass_of_methodNamed B.named
  have hlocks := B.notSynchronized
  have hw := pw_start (cy := cy) hsz hP hD0
  have hW := pq_start (as := [q23, q24]) hw hC rfl
  have hl := lv_entry ([.ref q23, .int n1]) (n := 2) (Nat.le_of_ble_eq_true rfl)
  rw [lg_entry_eq]
  generalize (lg_sl ([.ref q23, .int n1]) ++ List.replicate (2 - (lg_sl ([.ref q23, .int n1])).length) Slot.unset).toArray = ls at hl ⊢
  have hl : lv_has ls 2 [(0, .ref q23), (1, .int n1)] := hl
  refine lv_aload_n hx hb dX9_putFour_0 rfl (lv_at hl 0 rfl) ?_
  refine lv_iload_n hx hb dX9_putFour_1 rfl (lv_at hl 1 rfl) ?_
  refine lv_bipush (v := 24) hx hb dX9_putFour_2 (by decide) ?_
  refine lv_ishr hx hb dX9_putFour_4 ?_
  refine lv_topi (fun y30 _ => ?_)
  refine pq_callv hW [0, 1] [] (by decide) rfl rfl (fun f9 hw9 hC9 => va_runV (C := RX9) (As := [.int y30]) (rest := []) ⟨hx, hb, hml, hown, hts⟩ (c_X9_put l D cy _ L f9 q23 q24 F_q23 _ y30 16 17 (by decide) (by decide) (by decide) hC9 E_q23) (cwV 1 hts (pp_gV pp5 pp4 pp6 pp7 pp8) rfl rfl rfl pd_X9_put ⟨Nat.le_of_ble_eq_true rfl, Nat.le_of_ble_eq_true rfl⟩) (pq_preV hG hw9 hC9 (j := 0) rfl rfl) rfl rfl hl.1 rfl (lv_room (Nat.le_of_ble_eq_true rfl)) dX9_putFour_5 ⟨Nat.le_of_ble_eq_true rfl, Nat.le_of_ble_eq_true rfl⟩) (fun cs1 H locs hP hW => ?_)
  obtain ⟨F_q23, g_q24, rfl, E_q23⟩ := hP
  have hW : pq_W D _ s.heap L f _ [(q23, .inr (9, F_q23)), (q24, .inl (cy 0, 1000, .inl _))] H locs := hW
  refine lv_aload_n hx hb dX9_putFour_8 rfl (lv_at hl 0 rfl) ?_
  refine lv_iload_n hx hb dX9_putFour_9 rfl (lv_at hl 1 rfl) ?_
  refine lv_bipush (v := 16) hx hb dX9_putFour_10 (by decide) ?_
  refine lv_ishr hx hb dX9_putFour_12 ?_
  refine lv_topi (fun y31 _ => ?_)
  refine pq_callv hW [0, 1] [] (by decide) rfl rfl (fun f9 hw9 hC9 => va_runV (C := RX9) (As := [.int y31]) (rest := []) ⟨hx, hb, hml, hown, hts⟩ (c_X9_put l D cy _ L f9 q23 q24 F_q23 _ y31 17 18 (by decide) (by decide) (by decide) hC9 E_q23) (cwV 1 hts (pp_gV pp5 pp4 pp6 pp7 pp8) rfl rfl rfl pd_X9_put ⟨Nat.le_of_ble_eq_true rfl, Nat.le_of_ble_eq_true rfl⟩) (pq_preV hG hw9 hC9 (j := 0) rfl rfl) rfl rfl hl.1 rfl (lv_room (Nat.le_of_ble_eq_true rfl)) dX9_putFour_13 ⟨Nat.le_of_ble_eq_true rfl, Nat.le_of_ble_eq_true rfl⟩) (fun cs1 H locs hP hW => ?_)
  obtain ⟨F_q23, g_q24, rfl, E_q23⟩ := hP
  have hW : pq_W D _ s.heap L f _ [(q23, .inr (9, F_q23)), (q24, .inl (cy 0, 1000, .inl _))] H locs := hW
  refine lv_aload_n hx hb dX9_putFour_16 rfl (lv_at hl 0 rfl) ?_
  refine lv_iload_n hx hb dX9_putFour_17 rfl (lv_at hl 1 rfl) ?_
  refine lv_bipush (v := 8) hx hb dX9_putFour_18 (by decide) ?_
  refine lv_ishr hx hb dX9_putFour_20 ?_
  refine lv_topi (fun y32 _ => ?_)
  refine pq_callv hW [0, 1] [] (by decide) rfl rfl (fun f9 hw9 hC9 => va_runV (C := RX9) (As := [.int y32]) (rest := []) ⟨hx, hb, hml, hown, hts⟩ (c_X9_put l D cy _ L f9 q23 q24 F_q23 _ y32 18 19 (by decide) (by decide) (by decide) hC9 E_q23) (cwV 1 hts (pp_gV pp5 pp4 pp6 pp7 pp8) rfl rfl rfl pd_X9_put ⟨Nat.le_of_ble_eq_true rfl, Nat.le_of_ble_eq_true rfl⟩) (pq_preV hG hw9 hC9 (j := 0) rfl rfl) rfl rfl hl.1 rfl (lv_room (Nat.le_of_ble_eq_true rfl)) dX9_putFour_21 ⟨Nat.le_of_ble_eq_true rfl, Nat.le_of_ble_eq_true rfl⟩) (fun cs1 H locs hP hW => ?_)
  obtain ⟨F_q23, g_q24, rfl, E_q23⟩ := hP
  have hW : pq_W D _ s.heap L f _ [(q23, .inr (9, F_q23)), (q24, .inl (cy 0, 1000, .inl _))] H locs := hW
  refine lv_aload_n hx hb dX9_putFour_24 rfl (lv_at hl 0 rfl) ?_
  refine lv_iload_n hx hb dX9_putFour_25 rfl (lv_at hl 1 rfl) ?_
  refine pq_callv hW [0, 1] [] (by decide) rfl rfl (fun f9 hw9 hC9 => va_runV (C := RX9) (As := [.int n1]) (rest := []) ⟨hx, hb, hml, hown, hts⟩ (c_X9_put l D cy _ L f9 q23 q24 F_q23 _ n1 19 20 (by decide) (by decide) (by decide) hC9 E_q23) (cwV 1 hts (pp_gV pp5 pp4 pp6 pp7 pp8) rfl rfl rfl pd_X9_put ⟨Nat.le_of_ble_eq_true rfl, Nat.le_of_ble_eq_true rfl⟩) (pq_preV hG hw9 hC9 (j := 0) rfl rfl) rfl rfl hl.1 rfl (lv_room (Nat.le_of_ble_eq_true rfl)) dX9_putFour_26 ⟨Nat.le_of_ble_eq_true rfl, Nat.le_of_ble_eq_true rfl⟩) (fun cs1 H locs hP hW => ?_)
  obtain ⟨F_q23, g_q24, rfl, E_q23⟩ := hP
  have hW : pq_W D _ s.heap L f _ [(q23, .inr (9, F_q23)), (q24, .inl (cy 0, 1000, .inl _))] H locs := hW
  exact pq_vret hx hb hr hlocks hW ⟨_, _, rfl, E_q23⟩ dX9_putFour_29
set_option maxHeartbeats 4000000 in
set_option maxRecDepth 100000 in
/-- TongueHouse.feed on a new object -/
theorem c_X12_feed (l : Launch) (D : va_G) (cy : Nat → ClassId) (sz : Nat) (L : List Nat) (f : Nat → va_E) {q1 q27 q39 q48 q61 q100 q114 q115 : Nat} (h0 q23 q24 : Nat) (F_h0 : List Value) (F_q23 : List Value) (g_q24 : Nat → Int32) (n1 : Int32) (n2 : Int32) (n3 : Int32) (n4 : Int32) (n5 : Int32) (hC : pq_C L f [(h0, .inr (12, F_h0)), (q23, .inr (9, F_q23)), (q24, .inl (cy 0, 1000, .inl g_q24))]) (E_h0 : pq_E 17 F_h0 [(0, .ref q1), (1, .ref q23), (2, .ref q27), (5, .ref q39), (6, .ref q48), (7, .ref q61), (10, .ref q100), (11, .ref q114), (12, .ref q115), (15, .int 0)]) (E_q23 : pq_E 10 F_q23 [(0, .ref q24), (1, .int 0), (5, .int 0), (6, .int 0), (7, .int 0)]) : Met l yX12_feed (Cond.code yX12_feed cX12_feed 6 (some .int) :: pp_ws) ({ frames := 2, cells := 0, slots := 0, locals := 42 }) (pw_Pc D cy [.ref h0, .int n1, .int n2, .int n3, .int n4, .int n5] sz L f) (pq_Qi D sz L f [h0, q23, q24] (fun r cs1 => r = 20 ∧ ¬ (False) ∧ cs1 = [])) 0 0 (pw_A L f sz) := by
  refine Met.ofW (cc := cX12_feed) (maxL := 6) (ret := (some .int)) (by decide) rfl ?_
  intro p e s m args below meth c s₁ B hml hv
  obtain ⟨rfl, hsz, hG, hP, hD0⟩ := hv
  have hx := B.exec
  have hb := B.bytes
  have hr := B.returns
  have hts := atoms_spec (ws := Cond.code yX12_feed cX12_feed 6 (some .int) :: pp_ws) B.pre
  have hpp := fun (w : Cond) (h : w ∈ pp_ws) => hts w (List.mem_cons_of_mem _ h)
  have hown : s.vm.findClass RX12 = some m.cls := findClass_of_methodNamed B.named
  have hlocks := B.notSynchronized
  have hw := pw_start (cy := cy) hsz hP hD0
  have hW := pq_start (as := [h0, q23, q24]) hw hC rfl
  have hl := lv_entry ([.ref h0, .int n1, .int n2, .int n3, .int n4, .int n5]) (n := 6) (Nat.le_of_ble_eq_true rfl)
  rw [lg_entry_eq]
  generalize (lg_sl ([.ref h0, .int n1, .int n2, .int n3, .int n4, .int n5]) ++ List.replicate (6 - (lg_sl ([.ref h0, .int n1, .int n2, .int n3, .int n4, .int n5])).length) Slot.unset).toArray = ls at hl ⊢
  have hl : lv_has ls 6 [(0, .ref h0), (1, .int n1), (2, .int n2), (3, .int n3), (4, .int n4), (5, .int n5)] := hl
  refine lv_aload_n hx hb dX12_feed_0 rfl (lv_at hl 0 rfl) ?_
  refine pq_get (own := RX12) (ci := 12) (C := RX12) (T := TX12) (N := 17) (k := 1) (v := .ref q23) hx hb hpp pi12 rfl hown hG hW 0 rfl E_h0 1 rfl (by decide) pp0 dX12_feed_1 ?_
  refine pq_get (own := RX12) (ci := 9) (C := RX9) (T := TX9) (N := 10) (k := 1) (v := .int 0) hx hb hpp pi9 rfl hown hG hW 1 rfl E_q23 1 rfl (by decide) pp1 dX12_feed_4 ?_
  refine lv_bipush (v := 20) hx hb dX12_feed_7 (by decide) ?_
  refine lv_iadd hx hb dX12_feed_9 ?_
  refine pq_topi (y := 20) (by decide) ?_
  refine lv_sipush (v := 1000) hx hb dX12_feed_10 (by decide) ?_
  refine lv_icmp_le (tgt := 26) hx hb dX12_feed_13 (by decide) (fun _ => ?_) (fun c9 => absurd c9 (by decide))
  refine lv_aload_n hx hb dX12_feed_26 rfl (lv_at hl 0 rfl) ?_
  refine pq_get (own := RX12) (ci := 12) (C := RX12) (T := TX12) (N := 17) (k := 1) (v := .ref q23) hx hb hpp pi12 rfl hown hG hW 0 rfl E_h0 1 rfl (by decide) pp0 dX12_feed_27 ?_
  refine lv_iload_n hx hb dX12_feed_30 rfl (lv_at hl 1 rfl) ?_
  refine pq_callv hW [1, 2] [0] (by decide) rfl rfl (fun f9 hw9 hC9 => va_runV (C := RX9) (As := [.int n1]) (rest := []) ⟨hx, hb, hml, hown, hts⟩ (c_X9_putFour l D cy _ L f9 q23 q24 F_q23 _ n1 hC9 E_q23) (cwV 1 hts (pp_gV pp10 pp9 pp11 pp12 pp8) rfl rfl rfl pd_X9_putFour ⟨Nat.le_of_ble_eq_true rfl, Nat.le_of_ble_eq_true rfl⟩) (pq_preV hG hw9 hC9 (j := 0) rfl rfl) rfl rfl hl.1 rfl (lv_room (Nat.le_of_ble_eq_true rfl)) dX12_feed_31 ⟨Nat.le_of_ble_eq_true rfl, Nat.le_of_ble_eq_true rfl⟩) (fun cs1 H locs hP hW => ?_)
  obtain ⟨F_q23, g_q24, rfl, E_q23⟩ := hP
  have hW : pq_W D _ s.heap L f _ [(q23, .inr (9, F_q23)), (q24, .inl (cy 0, 1000, .inl _)), (h0, .inr (12, F_h0))] H locs := hW
  refine lv_aload_n hx hb dX12_feed_34 rfl (lv_at hl 0 rfl) ?_
  refine pq_get (own := RX12) (ci := 12) (C := RX12) (T := TX12) (N := 17) (k := 1) (v := .ref q23) hx hb hpp pi12 rfl hown hG hW 2 rfl E_h0 1 rfl (by decide) pp0 dX12_feed_35 ?_
  refine lv_iload_n hx hb dX12_feed_38 rfl (lv_at hl 2 rfl) ?_
  refine pq_callv hW [0, 1] [2] (by decide) rfl rfl (fun f9 hw9 hC9 => va_runV (C := RX9) (As := [.int n2]) (rest := []) ⟨hx, hb, hml, hown, hts⟩ (c_X9_putFour_1 l D cy _ L f9 q23 q24 F_q23 _ n2 hC9 E_q23) (cwV 1 hts (pp_gV pp10 pp9 pp11 pp12 pp8) rfl rfl rfl pd_X9_putFour ⟨Nat.le_of_ble_eq_true rfl, Nat.le_of_ble_eq_true rfl⟩) (pq_preV hG hw9 hC9 (j := 0) rfl rfl) rfl rfl hl.1 rfl (lv_room (Nat.le_of_ble_eq_true rfl)) dX12_feed_39 ⟨Nat.le_of_ble_eq_true rfl, Nat.le_of_ble_eq_true rfl⟩) (fun cs1 H locs hP hW => ?_)
  obtain ⟨F_q23, g_q24, rfl, E_q23⟩ := hP
  have hW : pq_W D _ s.heap L f _ [(q23, .inr (9, F_q23)), (q24, .inl (cy 0, 1000, .inl _)), (h0, .inr (12, F_h0))] H locs := hW
  refine lv_aload_n hx hb dX12_feed_42 rfl (lv_at hl 0 rfl) ?_
  refine pq_get (own := RX12) (ci := 12) (C := RX12) (T := TX12) (N := 17) (k := 1) (v := .ref q23) hx hb hpp pi12 rfl hown hG hW 2 rfl E_h0 1 rfl (by decide) pp0 dX12_feed_43 ?_
  refine lv_iload_n hx hb dX12_feed_46 rfl (lv_at hl 3 rfl) ?_
  refine pq_callv hW [0, 1] [2] (by decide) rfl rfl (fun f9 hw9 hC9 => va_runV (C := RX9) (As := [.int n3]) (rest := []) ⟨hx, hb, hml, hown, hts⟩ (c_X9_putFour_2 l D cy _ L f9 q23 q24 F_q23 _ n3 hC9 E_q23) (cwV 1 hts (pp_gV pp10 pp9 pp11 pp12 pp8) rfl rfl rfl pd_X9_putFour ⟨Nat.le_of_ble_eq_true rfl, Nat.le_of_ble_eq_true rfl⟩) (pq_preV hG hw9 hC9 (j := 0) rfl rfl) rfl rfl hl.1 rfl (lv_room (Nat.le_of_ble_eq_true rfl)) dX12_feed_47 ⟨Nat.le_of_ble_eq_true rfl, Nat.le_of_ble_eq_true rfl⟩) (fun cs1 H locs hP hW => ?_)
  obtain ⟨F_q23, g_q24, rfl, E_q23⟩ := hP
  have hW : pq_W D _ s.heap L f _ [(q23, .inr (9, F_q23)), (q24, .inl (cy 0, 1000, .inl _)), (h0, .inr (12, F_h0))] H locs := hW
  refine lv_aload_n hx hb dX12_feed_50 rfl (lv_at hl 0 rfl) ?_
  refine pq_get (own := RX12) (ci := 12) (C := RX12) (T := TX12) (N := 17) (k := 1) (v := .ref q23) hx hb hpp pi12 rfl hown hG hW 2 rfl E_h0 1 rfl (by decide) pp0 dX12_feed_51 ?_
  refine lv_iload hx hb dX12_feed_54 (lv_at hl 4 rfl) ?_
  refine pq_callv hW [0, 1] [2] (by decide) rfl rfl (fun f9 hw9 hC9 => va_runV (C := RX9) (As := [.int n4]) (rest := []) ⟨hx, hb, hml, hown, hts⟩ (c_X9_putFour_3 l D cy _ L f9 q23 q24 F_q23 _ n4 hC9 E_q23) (cwV 1 hts (pp_gV pp10 pp9 pp11 pp12 pp8) rfl rfl rfl pd_X9_putFour ⟨Nat.le_of_ble_eq_true rfl, Nat.le_of_ble_eq_true rfl⟩) (pq_preV hG hw9 hC9 (j := 0) rfl rfl) rfl rfl hl.1 rfl (lv_room (Nat.le_of_ble_eq_true rfl)) dX12_feed_56 ⟨Nat.le_of_ble_eq_true rfl, Nat.le_of_ble_eq_true rfl⟩) (fun cs1 H locs hP hW => ?_)
  obtain ⟨F_q23, g_q24, rfl, E_q23⟩ := hP
  have hW : pq_W D _ s.heap L f _ [(q23, .inr (9, F_q23)), (q24, .inl (cy 0, 1000, .inl _)), (h0, .inr (12, F_h0))] H locs := hW
  refine lv_aload_n hx hb dX12_feed_59 rfl (lv_at hl 0 rfl) ?_
  refine pq_get (own := RX12) (ci := 12) (C := RX12) (T := TX12) (N := 17) (k := 1) (v := .ref q23) hx hb hpp pi12 rfl hown hG hW 2 rfl E_h0 1 rfl (by decide) pp0 dX12_feed_60 ?_
  refine lv_iload hx hb dX12_feed_63 (lv_at hl 5 rfl) ?_
  refine pq_callv hW [0, 1] [2] (by decide) rfl rfl (fun f9 hw9 hC9 => va_runV (C := RX9) (As := [.int n5]) (rest := []) ⟨hx, hb, hml, hown, hts⟩ (c_X9_putFour_4 l D cy _ L f9 q23 q24 F_q23 _ n5 hC9 E_q23) (cwV 1 hts (pp_gV pp10 pp9 pp11 pp12 pp8) rfl rfl rfl pd_X9_putFour ⟨Nat.le_of_ble_eq_true rfl, Nat.le_of_ble_eq_true rfl⟩) (pq_preV hG hw9 hC9 (j := 0) rfl rfl) rfl rfl hl.1 rfl (lv_room (Nat.le_of_ble_eq_true rfl)) dX12_feed_65 ⟨Nat.le_of_ble_eq_true rfl, Nat.le_of_ble_eq_true rfl⟩) (fun cs1 H locs hP hW => ?_)
  obtain ⟨F_q23, g_q24, rfl, E_q23⟩ := hP
  have hW : pq_W D _ s.heap L f _ [(q23, .inr (9, F_q23)), (q24, .inl (cy 0, 1000, .inl _)), (h0, .inr (12, F_h0))] H locs := hW
  refine lv_aload_n hx hb dX12_feed_68 rfl (lv_at hl 0 rfl) ?_
  refine pq_get (own := RX12) (ci := 12) (C := RX12) (T := TX12) (N := 17) (k := 1) (v := .ref q23) hx hb hpp pi12 rfl hown hG hW 2 rfl E_h0 1 rfl (by decide) pp0 dX12_feed_69 ?_
  refine pq_get (own := RX12) (ci := 9) (C := RX9) (T := TX9) (N := 10) (k := 1) (v := .int 20) hx hb hpp pi9 rfl hown hG hW 0 rfl E_q23 1 rfl (by decide) pp1 dX12_feed_72 ?_
  exact pq_iret hx hb hr hlocks rfl (hW.pick (cs2 := []) [] (by decide) rfl) ⟨rfl, not_false, rfl⟩ dX12_feed_75
theorem pz_X12_end_1 (n1 : Int32) (c1 : n1 < 0) : n1 < 0 ∨ 0 < n1 := by
  have k0 : (0 : Int32).toInt = 0 := by decide
  simp only [Int32.lt_iff_toInt_lt, Int32.le_iff_toInt_le, ← Int32.toInt_inj] at c1 ⊢
  omega
theorem pz_X12_end_2 (n1 : Int32) (c1 : ¬ n1 < 0) (c2 : n1 ≤ 0) : ¬ (n1 < 0 ∨ 0 < n1) := by
  have k0 : (0 : Int32).toInt = 0 := by decide
  simp only [Int32.lt_iff_toInt_lt, Int32.le_iff_toInt_le, ← Int32.toInt_inj] at c1 c2 ⊢
  omega
theorem pz_X12_end_3 (n1 : Int32) (c1 : ¬ n1 < 0) (c2 : ¬ n1 ≤ 0) : n1 < 0 ∨ 0 < n1 := by
  have k0 : (0 : Int32).toInt = 0 := by decide
  simp only [Int32.lt_iff_toInt_lt, Int32.le_iff_toInt_le, ← Int32.toInt_inj] at c1 c2 ⊢
  omega
set_option maxHeartbeats 4000000 in
set_option maxRecDepth 100000 in
/-- TongueHouse.end on a new object -/
theorem c_X12_end (l : Launch) (hst : l.stackTraces = false) (D : va_G) (cy : Nat → ClassId) (sa : Nat → Nat) (sz : Nat) (L : List Nat) (f : Nat → va_E) {q1 q24 q27 q39 q48 q61 q100 q114 q115 : Nat} (h0 q23 : Nat) (F_h0 : List Value) (F_q23 : List Value) (n1 : Int32) (hC : pq_C L f [(h0, .inr (12, F_h0)), (q23, .inr (9, F_q23))]) (E_h0 : pq_E 17 F_h0 [(0, .ref q1), (1, .ref q23), (2, .ref q27), (5, .ref q39), (6, .ref q48), (7, .ref q61), (10, .ref q100), (11, .ref q114), (12, .ref q115), (15, .int 0)]) (E_q23 : pq_E 10 F_q23 [(0, .ref q24), (1, .int 0), (5, .int 0), (6, .int 0), (7, .int 0)]) : vx_Met l yX12_end (Cond.code yX12_end cX12_end 2 (some .int) :: pp_ws) ({ frames := 6, cells := 1, slots := 6, locals := 100 }) (px_Pc D cy sa [.ref h0, .int n1] sz L f) (pq_Qi D sz L f [h0, q23] (fun r cs1 => r = n1 ∧ ¬ (n1 < 0 ∨ 0 < n1) ∧ cs1 = [])) (pq_T D sz L f [h0, q23] (fun E9 cs1 => E9 = px_IAE ∧ (n1 < 0 ∨ 0 < n1) ∧ cs1 = [])) 1 6 (pw_A L f sz) := by
  refine vx_ofW (cc := cX12_end) (maxL := 2) (ret := (some .int)) (by decide) rfl ?_
  intro p e s m args below meth c s₁ B hml hno hv
  obtain ⟨rfl, hsz, hG, hX, hP, hD0⟩ := hv
  have hx := B.exec
  have hb := B.bytes
  have hr := B.returns
  have hts := atoms_spec (ws := Cond.code yX12_end cX12_end 2 (some .int) :: pp_ws) B.pre
  have hpp := fun (w : Cond) (h : w ∈ pp_ws) => hts w (List.mem_cons_of_mem _ h)
  have hown : s.vm.findClass RX12 = some m.cls := findClass_of_methodNamed B.named
  have hlocks := B.notSynchronized
  have hw := pw_start (cy := cy) hsz hP hD0
  have hW := pq_start (as := [h0, q23]) hw hC rfl
  have hl := lv_entry ([.ref h0, .int n1]) (n := 2) (Nat.le_of_ble_eq_true rfl)
  rw [lg_entry_eq]
  generalize (lg_sl ([.ref h0, .int n1]) ++ List.replicate (2 - (lg_sl ([.ref h0, .int n1])).length) Slot.unset).toArray = ls at hl ⊢
  have hl : lv_has ls 2 [(0, .ref h0), (1, .int n1)] := hl
  refine lv_iload_n hx hb dX12_end_0 rfl (lv_at hl 1 rfl) ?_
  refine lv_if_lt (tgt := 15) hx hb dX12_end_1 (by decide) (fun c1 => ?_) (fun c1 => ?_)
  · exact px_throwI (text := "the tape has not so many bytes") (is := 117) hx hb hst hpp hown pp21 pp22 pi_at (by decide +kernel) hX (hW.pick (cs2 := []) [] (by decide) rfl) ⟨rfl, (pz_X12_end_1 n1 c1), rfl⟩ (hl.1.trans hml.symm) dX12_end_15 dX12_end_18 dX12_end_19 dX12_end_21 dX12_end_24 hno (Nat.le_of_ble_eq_true rfl) (Nat.le_of_ble_eq_true rfl) (Nat.le_of_ble_eq_true rfl) (Nat.le_of_ble_eq_true rfl) hlocks (Nat.le_of_ble_eq_true rfl) (Nat.le_of_ble_eq_true rfl)
  · refine lv_iload_n hx hb dX12_end_4 rfl (lv_at hl 1 rfl) ?_
    refine lv_aload_n hx hb dX12_end_5 rfl (lv_at hl 0 rfl) ?_
    refine pq_get (own := RX12) (ci := 12) (C := RX12) (T := TX12) (N := 17) (k := 1) (v := .ref q23) hx hb hpp pi12 rfl hown hG hW 0 rfl E_h0 1 rfl (by decide) pp0 dX12_end_6 ?_
    refine pq_get (own := RX12) (ci := 9) (C := RX9) (T := TX9) (N := 10) (k := 1) (v := .int 0) hx hb hpp pi9 rfl hown hG hW 1 rfl E_q23 1 rfl (by decide) pp1 dX12_end_9 ?_
    refine lv_icmp_le (tgt := 25) hx hb dX12_end_12 (by decide) (fun c2 => ?_) (fun c2 => ?_)
    · refine lv_aload_n hx hb dX12_end_25 rfl (lv_at hl 0 rfl) ?_
      refine pq_get (own := RX12) (ci := 12) (C := RX12) (T := TX12) (N := 17) (k := 1) (v := .ref q23) hx hb hpp pi12 rfl hown hG hW 0 rfl E_h0 1 rfl (by decide) pp0 dX12_end_26 ?_
      refine lv_iload_n hx hb dX12_end_29 rfl (lv_at hl 1 rfl) ?_
      refine pq_put (own := RX12) (ci := 9) (C := RX9) (T := TX9) (N := 10) (kv' := [(0, .ref q24), (1, .int n1), (5, .int 0), (6, .int 0), (7, .int 0)]) hx hb hpp pi9 tyX9 tyX9_ok nmX9 rfl hown hG hW 1 rfl E_q23 1 (by decide) rfl rfl rfl rfl pp1 dX12_end_30 (fun F_q23 H locs hW E_q23 => ?_)
      have hW : pq_W D _ s.heap L f _ [(h0, .inr (12, F_h0)), (q23, .inr (9, F_q23))] H locs := hW
      refine lv_iload_n hx hb dX12_end_33 rfl (lv_at hl 1 rfl) ?_
      exact px_iret hx hb hr hlocks rfl (hW.pick (cs2 := []) [] (by decide) rfl) ⟨rfl, (pz_X12_end_2 n1 c1 c2), rfl⟩ (Nat.le_of_ble_eq_true rfl) (Nat.le_of_ble_eq_true rfl) dX12_end_34
    · exact px_throwI (text := "the tape has not so many bytes") (is := 117) hx hb hst hpp hown pp21 pp22 pi_at (by decide +kernel) hX (hW.pick (cs2 := []) [] (by decide) rfl) ⟨rfl, (pz_X12_end_3 n1 c1 c2), rfl⟩ (hl.1.trans hml.symm) dX12_end_15 dX12_end_18 dX12_end_19 dX12_end_21 dX12_end_24 hno (Nat.le_of_ble_eq_true rfl) (Nat.le_of_ble_eq_true rfl) (Nat.le_of_ble_eq_true rfl) (Nat.le_of_ble_eq_true rfl) hlocks (Nat.le_of_ble_eq_true rfl) (Nat.le_of_ble_eq_true rfl)
