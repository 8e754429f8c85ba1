theorem pz_X13_guessed_1 (n2 : Int32) (c1 : n2 < 0) : n2 < 0 ∨ 3 < n2 := by
  have k0 : (0 : Int32).toInt = 0 := by decide
  have k3 : (3 : Int32).toInt = 3 := by decide
  simp only [Int32.lt_iff_toInt_lt, Int32.le_iff_toInt_le, ← Int32.toInt_inj] at c1 ⊢
  omega
theorem pz_X13_guessed_2 (n1 n2 : Int32) (c1 : ¬ n2 < 0) (c2 : n2 ≤ 3) (c3 : n1 < 0) : ¬ (n2 < 0 ∨ 3 < n2) := by
  have k0 : (0 : Int32).toInt = 0 := by decide
  have k3 : (3 : Int32).toInt = 3 := by decide
  simp only [Int32.lt_iff_toInt_lt, Int32.le_iff_toInt_le, ← Int32.toInt_inj] at c1 c2 c3 ⊢
  omega
theorem pz_X13_guessed_3 (n1 n2 : Int32) (c1 : ¬ n2 < 0) (c2 : n2 ≤ 3) (c3 : ¬ n1 < 0) (c4 : n1 < 0) : False := by
  have k0 : (0 : Int32).toInt = 0 := by decide
  have k3 : (3 : Int32).toInt = 3 := by decide
  simp only [Int32.lt_iff_toInt_lt, Int32.le_iff_toInt_le, ← Int32.toInt_inj] at c1 c2 c3 c4 ⊢
  omega
theorem pz_X13_guessed_4 (n1 n2 : Int32) (c1 : ¬ n2 < 0) (c2 : n2 ≤ 3) (c3 : ¬ n1 < 0) : ¬ (n2 < 0 ∨ 3 < n2) := by
  have k0 : (0 : Int32).toInt = 0 := by decide
  have k3 : (3 : Int32).toInt = 3 := by decide
  simp only [Int32.lt_iff_toInt_lt, Int32.le_iff_toInt_le, ← Int32.toInt_inj] at c1 c2 c3 ⊢
  omega
theorem pz_X13_guessed_5 (n2 : Int32) (c1 : ¬ n2 < 0) (c2 : ¬ n2 ≤ 3) : n2 < 0 ∨ 3 < n2 := by
  have k0 : (0 : Int32).toInt = 0 := by decide
  have k3 : (3 : Int32).toInt = 3 := by decide
  simp only [Int32.lt_iff_toInt_lt, Int32.le_iff_toInt_le, ← Int32.toInt_inj] at c1 c2 ⊢
  omega
set_option maxHeartbeats 4000000 in
set_option maxRecDepth 100000 in
/-- TongueHouseModel.guessed on a new object -/
theorem c_X13_guessed (l : Launch) (D : va_G) (cy : Nat → ClassId) (sz : Nat) (L : List Nat) (f : Nat → va_E) {w10 w13 w14 w15 w16 w17 w18 w19 w56 w59 w115 : Nat} (m0 : Nat) (F_m0 : List Value) (n1 : Int32) (n2 : Int32) (hC : pq_C L f [(m0, .inr (13, F_m0))]) (E_m0 : pq_E 229 F_m0 [(0, .int 0), (1, .int 0), (2, .int 0), (3, .int 0), (4, .int 0), (5, .int 0), (6, .int (-1)), (16, .ref w10), (19, .ref w13), (20, .ref w14), (21, .ref w15), (22, .ref w16), (23, .ref w17), (24, .ref w18), (25, .ref w19), (42, .int 0), (59, .int 0), (64, .int 0), (65, .ref w56), (68, .int 0), (69, .int 0), (70, .int 0), (71, .int 0), (72, .int 0), (73, .int 0), (74, .int 0), (75, .long 0), (76, .int 0), (79, .int 0), (97, .ref w59), (99, .int 0), (100, .int 0), (132, .int 0), (136, .int 0), (179, .int 0), (180, .int 0), (181, .long 0), (186, .int 0), (188, .int 0), (190, .ref w115), (201, .int 0), (206, .int 0), (211, .int 0)]) : Met l yX13_guessed (Cond.code yX13_guessed cX13_guessed 3 (some .int) :: pp_ws) ({ frames := 1, cells := 0, slots := 0, locals := 20 }) (pw_Pc D cy [.ref m0, .int n1, .int n2] sz L f) (pq_Qi D sz L f [m0] (fun r cs1 => ∃ (G : List Value) (t : Int32), cs1 = [(m0, .inr (13, G))] ∧ pq_E 229 G [(0, .int t)] ∧ ((t = 1 ∧ (n2 < 0 ∨ 3 < n2)) ∨ (t = 0 ∧ ¬ (n2 < 0 ∨ 3 < n2) ∧ r = (-1))))) 0 0 (pw_A L f sz) := by
  refine Met.ofW (cc := cX13_guessed) (maxL := 3) (ret := (some .int)) (by decide) rfl ?_
  intro p e s m args below meth c s₁ B hml hv
  obtain ⟨rfl, hsz, hG, hP, hD0⟩ := hv
  have hx := B.exec
  have hb := B.bytes
  have hr := B.returns
  have hts := atoms_spec (ws := Cond.code yX13_guessed cX13_guessed 3 (some .int) :: pp_ws) B.pre
  have hpp := fun (w : Cond) (h : w ∈ pp_ws) => hts w (List.mem_cons_of_mem _ h)
  have hown : s.vm.findClass RX13 = some m.cls := findClass_of_methodNamed B.named
  have hlocks := B.notSynchronized
  have hw := pw_start (cy := cy) hsz hP hD0
  have hW := pq_start (as := [m0]) hw hC rfl
  have hl := lv_entry ([.ref m0, .int n1, .int n2]) (n := 3) (Nat.le_of_ble_eq_true rfl)
  rw [lg_entry_eq]
  generalize (lg_sl ([.ref m0, .int n1, .int n2]) ++ List.replicate (3 - (lg_sl ([.ref m0, .int n1, .int n2])).length) Slot.unset).toArray = ls at hl ⊢
  have hl : lv_has ls 3 [(0, .ref m0), (1, .int n1), (2, .int n2)] := hl
  refine lv_aload_n hx hb dX13_guessed_0 rfl (lv_at hl 0 rfl) ?_
  refine lv_iconst (v := 0) hx hb dX13_guessed_1 (by decide) ?_
  refine pq_put (own := RX13) (ci := 13) (C := RX13) (T := TX13) (N := 229) (kv' := [(0, .int 0), (1, .int 0), (2, .int 0), (3, .int 0), (4, .int 0), (5, .int 0), (6, .int (-1)), (16, .ref w10), (19, .ref w13), (20, .ref w14), (21, .ref w15), (22, .ref w16), (23, .ref w17), (24, .ref w18), (25, .ref w19), (42, .int 0), (59, .int 0), (64, .int 0), (65, .ref w56), (68, .int 0), (69, .int 0), (70, .int 0), (71, .int 0), (72, .int 0), (73, .int 0), (74, .int 0), (75, .long 0), (76, .int 0), (79, .int 0), (97, .ref w59), (99, .int 0), (100, .int 0), (132, .int 0), (136, .int 0), (179, .int 0), (180, .int 0), (181, .long 0), (186, .int 0), (188, .int 0), (190, .ref w115), (201, .int 0), (206, .int 0), (211, .int 0)]) hx hb hpp pi13 tyX13 tyX13_ok nmX13 rfl hown hG hW 0 rfl E_m0 0 (by decide) rfl rfl rfl rfl pp13 dX13_guessed_2 (fun F_m0 H locs hW E_m0 => ?_)
  have hW : pq_W D _ s.heap L f _ [(m0, .inr (13, F_m0))] H locs := hW
  refine lv_iload_n hx hb dX13_guessed_5 rfl (lv_at hl 2 rfl) ?_
  refine lv_if_lt (tgt := 14) hx hb dX13_guessed_6 (by decide) (fun c1 => ?_) (fun c1 => ?_)
  · refine lv_aload_n hx hb dX13_guessed_14 rfl (lv_at hl 0 rfl) ?_
    refine pq_calli hW [0] [] (by decide) rfl rfl (fun f9 hw9 hC9 => va_runV (C := RX13) (As := []) (rest := []) ⟨hx, hb, hml, hown, hts⟩ (c_X13_bad l D cy _ L f9 m0 F_m0 hC9 E_m0) (cwV 0 hts (pp_gV pp24 pp23 pp25 pp26 pp20) rfl rfl rfl pd_X13_bad ⟨Nat.le_of_ble_eq_true rfl, Nat.le_of_ble_eq_true rfl⟩) (pq_preV hG hw9 hC9 (j := 0) rfl rfl) rfl rfl hl.1 rfl (lv_room (Nat.le_of_ble_eq_true rfl)) dX13_guessed_15 ⟨Nat.le_of_ble_eq_true rfl, Nat.le_of_ble_eq_true rfl⟩) (fun r cs1 H locs hP hW => ?_)
    obtain ⟨F_m0, rfl, rfl, E_m0⟩ := hP
    have hW : pq_W D _ s.heap L f _ [(m0, .inr (13, F_m0))] H locs := hW
    exact pq_iret hx hb hr hlocks rfl hW ⟨F_m0, 1, rfl, E_m0.one (i := 0) rfl, Or.inl ⟨rfl, (pz_X13_guessed_1 n2 c1)⟩⟩ dX13_guessed_18
  · refine lv_iload_n hx hb dX13_guessed_9 rfl (lv_at hl 2 rfl) ?_
    refine lv_iconst (v := 3) hx hb dX13_guessed_10 (by decide) ?_
    refine lv_icmp_le (tgt := 19) hx hb dX13_guessed_11 (by decide) (fun c2 => ?_) (fun c2 => ?_)
    · refine lv_iload_n hx hb dX13_guessed_19 rfl (lv_at hl 1 rfl) ?_
      refine lv_if_lt (tgt := 31) hx hb dX13_guessed_20 (by decide) (fun c3 => ?_) (fun c3 => ?_)
      · refine lv_iconst (v := (-1)) hx hb dX13_guessed_31 (by decide) ?_
        exact pq_iret hx hb hr hlocks rfl hW ⟨F_m0, 0, rfl, E_m0.one (i := 0) rfl, Or.inr ⟨rfl, (pz_X13_guessed_2 n1 n2 c1 c2 c3), rfl⟩⟩ dX13_guessed_32
      · refine lv_iload_n hx hb dX13_guessed_23 rfl (lv_at hl 1 rfl) ?_
        refine lv_aload_n hx hb dX13_guessed_24 rfl (lv_at hl 0 rfl) ?_
        refine pq_get (own := RX13) (ci := 13) (C := RX13) (T := TX13) (N := 229) (k := 136) (v := .int 0) hx hb hpp pi13 rfl hown hG hW 0 rfl E_m0 33 rfl (by decide) pp138 dX13_guessed_25 ?_
        refine lv_icmp_lt (tgt := 33) hx hb dX13_guessed_28 (by decide) (fun c4 => (pz_X13_guessed_3 n1 n2 c1 c2 c3 c4).elim) (fun _ => ?_)
        refine lv_iconst (v := (-1)) hx hb dX13_guessed_31 (by decide) ?_
        exact pq_iret hx hb hr hlocks rfl hW ⟨F_m0, 0, rfl, E_m0.one (i := 0) rfl, Or.inr ⟨rfl, (pz_X13_guessed_4 n1 n2 c1 c2 c3), rfl⟩⟩ dX13_guessed_32
    · refine lv_aload_n hx hb dX13_guessed_14 rfl (lv_at hl 0 rfl) ?_
      refine pq_calli hW [0] [] (by decide) rfl rfl (fun f9 hw9 hC9 => va_runV (C := RX13) (As := []) (rest := []) ⟨hx, hb, hml, hown, hts⟩ (c_X13_bad l D cy _ L f9 m0 F_m0 hC9 E_m0) (cwV 0 hts (pp_gV pp24 pp23 pp25 pp26 pp20) rfl rfl rfl pd_X13_bad ⟨Nat.le_of_ble_eq_true rfl, Nat.le_of_ble_eq_true rfl⟩) (pq_preV hG hw9 hC9 (j := 0) rfl rfl) rfl rfl hl.1 rfl (lv_room (Nat.le_of_ble_eq_true rfl)) dX13_guessed_15 ⟨Nat.le_of_ble_eq_true rfl, Nat.le_of_ble_eq_true rfl⟩) (fun r cs1 H locs hP hW => ?_)
      obtain ⟨F_m0, rfl, rfl, E_m0⟩ := hP
      have hW : pq_W D _ s.heap L f _ [(m0, .inr (13, F_m0))] H locs := hW
      exact pq_iret hx hb hr hlocks rfl hW ⟨F_m0, 1, rfl, E_m0.one (i := 0) rfl, Or.inl ⟨rfl, (pz_X13_guessed_5 n2 c1 c2)⟩⟩ dX13_guessed_18
theorem pz_X13_hit_1 (n2 : Int32) (c1 : n2 < 0) : n2 < 0 ∨ 1 < n2 := by
  have k0 : (0 : Int32).toInt = 0 := by decide
  have k1 : (1 : Int32).toInt = 1 := by decide
  simp only [Int32.lt_iff_toInt_lt, Int32.le_iff_toInt_le, ← Int32.toInt_inj] at c1 ⊢
  omega
theorem pz_X13_hit_2 (n1 n2 : Int32) (c1 : ¬ n2 < 0) (c2 : n2 ≤ 1) (c3 : n1 < 0) : ¬ (n2 < 0 ∨ 1 < n2) := by
  have k0 : (0 : Int32).toInt = 0 := by decide
  have k1 : (1 : Int32).toInt = 1 := by decide
  simp only [Int32.lt_iff_toInt_lt, Int32.le_iff_toInt_le, ← Int32.toInt_inj] at c1 c2 c3 ⊢
  omega
theorem pz_X13_hit_3 (n1 n2 : Int32) (c1 : ¬ n2 < 0) (c2 : n2 ≤ 1) (c3 : ¬ n1 < 0) (c4 : n1 < 0) : False := by
  have k0 : (0 : Int32).toInt = 0 := by decide
  have k1 : (1 : Int32).toInt = 1 := by decide
  simp only [Int32.lt_iff_toInt_lt, Int32.le_iff_toInt_le, ← Int32.toInt_inj] at c1 c2 c3 c4 ⊢
  omega
theorem pz_X13_hit_4 (n1 n2 : Int32) (c1 : ¬ n2 < 0) (c2 : n2 ≤ 1) (c3 : ¬ n1 < 0) : ¬ (n2 < 0 ∨ 1 < n2) := by
  have k0 : (0 : Int32).toInt = 0 := by decide
  have k1 : (1 : Int32).toInt = 1 := by decide
  simp only [Int32.lt_iff_toInt_lt, Int32.le_iff_toInt_le, ← Int32.toInt_inj] at c1 c2 c3 ⊢
  omega
theorem pz_X13_hit_5 (n2 : Int32) (c1 : ¬ n2 < 0) (c2 : ¬ n2 ≤ 1) : n2 < 0 ∨ 1 < n2 := by
  have k0 : (0 : Int32).toInt = 0 := by decide
  have k1 : (1 : Int32).toInt = 1 := by decide
  simp only [Int32.lt_iff_toInt_lt, Int32.le_iff_toInt_le, ← Int32.toInt_inj] at c1 c2 ⊢
  omega
set_option maxHeartbeats 4000000 in
set_option maxRecDepth 100000 in
/-- TongueHouseModel.hit on a new object -/
theorem c_X13_hit (l : Launch) (D : va_G) (cy : Nat → ClassId) (sz : Nat) (L : List Nat) (f : Nat → va_E) {w10 w13 w14 w15 w16 w17 w18 w19 w56 w59 w115 : Nat} (m0 : Nat) (F_m0 : List Value) (n1 : Int32) (n2 : Int32) (hC : pq_C L f [(m0, .inr (13, F_m0))]) (E_m0 : pq_E 229 F_m0 [(0, .int 0), (1, .int 0), (2, .int 0), (3, .int 0), (4, .int 0), (5, .int 0), (6, .int (-1)), (16, .ref w10), (19, .ref w13), (20, .ref w14), (21, .ref w15), (22, .ref w16), (23, .ref w17), (24, .ref w18), (25, .ref w19), (42, .int 0), (59, .int 0), (64, .int 0), (65, .ref w56), (68, .int 0), (69, .int 0), (70, .int 0), (71, .int 0), (72, .int 0), (73, .int 0), (74, .int 0), (75, .long 0), (76, .int 0), (79, .int 0), (97, .ref w59), (99, .int 0), (100, .int 0), (132, .int 0), (136, .int 0), (179, .int 0), (180, .int 0), (181, .long 0), (186, .int 0), (188, .int 0), (190, .ref w115), (201, .int 0), (206, .int 0), (211, .int 0)]) : Met l yX13_hit (Cond.code yX13_hit cX13_hit 3 (some .int) :: pp_ws) ({ frames := 1, cells := 0, slots := 0, locals := 20 }) (pw_Pc D cy [.ref m0, .int n1, .int n2] sz L f) (pq_Qi D sz L f [m0] (fun r cs1 => ∃ (G : List Value) (t : Int32), cs1 = [(m0, .inr (13, G))] ∧ pq_E 229 G [(0, .int t)] ∧ ((t = 1 ∧ (n2 < 0 ∨ 1 < n2)) ∨ (t = 0 ∧ ¬ (n2 < 0 ∨ 1 < n2) ∧ r = (-1))))) 0 0 (pw_A L f sz) := by
  refine Met.ofW (cc := cX13_hit) (maxL := 3) (ret := (some .int)) (by decide) rfl ?_
  intro p e s m args below meth c s₁ B hml hv
  obtain ⟨rfl, hsz, hG, hP, hD0⟩ := hv
  have hx := B.exec
  have hb := B.bytes
  have hr := B.returns
  have hts := atoms_spec (ws := Cond.code yX13_hit cX13_hit 3 (some .int) :: pp_ws) B.pre
  have hpp := fun (w : Cond) (h : w ∈ pp_ws) => hts w (List.mem_cons_of_mem _ h)
  have hown : s.vm.findClass RX13 = some m.cls := findClass_of_methodNamed B.named
  have hlocks := B.notSynchronized
  have hw := pw_start (cy := cy) hsz hP hD0
  have hW := pq_start (as := [m0]) hw hC rfl
  have hl := lv_entry ([.ref m0, .int n1, .int n2]) (n := 3) (Nat.le_of_ble_eq_true rfl)
  rw [lg_entry_eq]
  generalize (lg_sl ([.ref m0, .int n1, .int n2]) ++ List.replicate (3 - (lg_sl ([.ref m0, .int n1, .int n2])).length) Slot.unset).toArray = ls at hl ⊢
  have hl : lv_has ls 3 [(0, .ref m0), (1, .int n1), (2, .int n2)] := hl
  refine lv_aload_n hx hb dX13_hit_0 rfl (lv_at hl 0 rfl) ?_
  refine lv_iconst (v := 0) hx hb dX13_hit_1 (by decide) ?_
  refine pq_put (own := RX13) (ci := 13) (C := RX13) (T := TX13) (N := 229) (kv' := [(0, .int 0), (1, .int 0), (2, .int 0), (3, .int 0), (4, .int 0), (5, .int 0), (6, .int (-1)), (16, .ref w10), (19, .ref w13), (20, .ref w14), (21, .ref w15), (22, .ref w16), (23, .ref w17), (24, .ref w18), (25, .ref w19), (42, .int 0), (59, .int 0), (64, .int 0), (65, .ref w56), (68, .int 0), (69, .int 0), (70, .int 0), (71, .int 0), (72, .int 0), (73, .int 0), (74, .int 0), (75, .long 0), (76, .int 0), (79, .int 0), (97, .ref w59), (99, .int 0), (100, .int 0), (132, .int 0), (136, .int 0), (179, .int 0), (180, .int 0), (181, .long 0), (186, .int 0), (188, .int 0), (190, .ref w115), (201, .int 0), (206, .int 0), (211, .int 0)]) hx hb hpp pi13 tyX13 tyX13_ok nmX13 rfl hown hG hW 0 rfl E_m0 0 (by decide) rfl rfl rfl rfl pp13 dX13_hit_2 (fun F_m0 H locs hW E_m0 => ?_)
  have hW : pq_W D _ s.heap L f _ [(m0, .inr (13, F_m0))] H locs := hW
  refine lv_iload_n hx hb dX13_hit_5 rfl (lv_at hl 2 rfl) ?_
  refine lv_if_lt (tgt := 14) hx hb dX13_hit_6 (by decide) (fun c1 => ?_) (fun c1 => ?_)
  · refine lv_aload_n hx hb dX13_hit_14 rfl (lv_at hl 0 rfl) ?_
    refine pq_calli hW [0] [] (by decide) rfl rfl (fun f9 hw9 hC9 => va_runV (C := RX13) (As := []) (rest := []) ⟨hx, hb, hml, hown, hts⟩ (c_X13_bad l D cy _ L f9 m0 F_m0 hC9 E_m0) (cwV 0 hts (pp_gV pp24 pp23 pp25 pp26 pp20) rfl rfl rfl pd_X13_bad ⟨Nat.le_of_ble_eq_true rfl, Nat.le_of_ble_eq_true rfl⟩) (pq_preV hG hw9 hC9 (j := 0) rfl rfl) rfl rfl hl.1 rfl (lv_room (Nat.le_of_ble_eq_true rfl)) dX13_hit_15 ⟨Nat.le_of_ble_eq_true rfl, Nat.le_of_ble_eq_true rfl⟩) (fun r cs1 H locs hP hW => ?_)
    obtain ⟨F_m0, rfl, rfl, E_m0⟩ := hP
    have hW : pq_W D _ s.heap L f _ [(m0, .inr (13, F_m0))] H locs := hW
    exact pq_iret hx hb hr hlocks rfl hW ⟨F_m0, 1, rfl, E_m0.one (i := 0) rfl, Or.inl ⟨rfl, (pz_X13_hit_1 n2 c1)⟩⟩ dX13_hit_18
  · refine lv_iload_n hx hb dX13_hit_9 rfl (lv_at hl 2 rfl) ?_
    refine lv_iconst (v := 1) hx hb dX13_hit_10 (by decide) ?_
    refine lv_icmp_le (tgt := 19) hx hb dX13_hit_11 (by decide) (fun c2 => ?_) (fun c2 => ?_)
    · refine lv_iload_n hx hb dX13_hit_19 rfl (lv_at hl 1 rfl) ?_
      refine lv_if_lt (tgt := 31) hx hb dX13_hit_20 (by decide) (fun c3 => ?_) (fun c3 => ?_)
      · refine lv_iconst (v := (-1)) hx hb dX13_hit_31 (by decide) ?_
        refine lv_goto (tgt := 54) hx hb dX13_hit_32 (by decide) ?_
        exact pq_iret hx hb hr hlocks rfl hW ⟨F_m0, 0, rfl, E_m0.one (i := 0) rfl, Or.inr ⟨rfl, (pz_X13_hit_2 n1 n2 c1 c2 c3), rfl⟩⟩ dX13_hit_54
      · refine lv_iload_n hx hb dX13_hit_23 rfl (lv_at hl 1 rfl) ?_
        refine lv_aload_n hx hb dX13_hit_24 rfl (lv_at hl 0 rfl) ?_
        refine pq_get (own := RX13) (ci := 13) (C := RX13) (T := TX13) (N := 229) (k := 211) (v := .int 0) hx hb hpp pi13 rfl hown hG hW 0 rfl E_m0 42 rfl (by decide) pp144 dX13_hit_25 ?_
        refine lv_icmp_lt (tgt := 35) hx hb dX13_hit_28 (by decide) (fun c4 => (pz_X13_hit_3 n1 n2 c1 c2 c3 c4).elim) (fun _ => ?_)
        refine lv_iconst (v := (-1)) hx hb dX13_hit_31 (by decide) ?_
        refine lv_goto (tgt := 54) hx hb dX13_hit_32 (by decide) ?_
        exact pq_iret hx hb hr hlocks rfl hW ⟨F_m0, 0, rfl, E_m0.one (i := 0) rfl, Or.inr ⟨rfl, (pz_X13_hit_4 n1 n2 c1 c2 c3), rfl⟩⟩ dX13_hit_54
    · refine lv_aload_n hx hb dX13_hit_14 rfl (lv_at hl 0 rfl) ?_
      refine pq_calli hW [0] [] (by decide) rfl rfl (fun f9 hw9 hC9 => va_runV (C := RX13) (As := []) (rest := []) ⟨hx, hb, hml, hown, hts⟩ (c_X13_bad l D cy _ L f9 m0 F_m0 hC9 E_m0) (cwV 0 hts (pp_gV pp24 pp23 pp25 pp26 pp20) rfl rfl rfl pd_X13_bad ⟨Nat.le_of_ble_eq_true rfl, Nat.le_of_ble_eq_true rfl⟩) (pq_preV hG hw9 hC9 (j := 0) rfl rfl) rfl rfl hl.1 rfl (lv_room (Nat.le_of_ble_eq_true rfl)) dX13_hit_15 ⟨Nat.le_of_ble_eq_true rfl, Nat.le_of_ble_eq_true rfl⟩) (fun r cs1 H locs hP hW => ?_)
      obtain ⟨F_m0, rfl, rfl, E_m0⟩ := hP
      have hW : pq_W D _ s.heap L f _ [(m0, .inr (13, F_m0))] H locs := hW
      exact pq_iret hx hb hr hlocks rfl hW ⟨F_m0, 1, rfl, E_m0.one (i := 0) rfl, Or.inl ⟨rfl, (pz_X13_hit_5 n2 c1 c2)⟩⟩ dX13_hit_18
set_option maxHeartbeats 4000000 in
set_option maxRecDepth 100000 in
/-- TongueHouseModel.trees on a new object -/
theorem c_X13_trees (l : Launch) (D : va_G) (cy : Nat → ClassId) (sz : Nat) (L : List Nat) (f : Nat → va_E) {w10 w13 w14 w15 w16 w17 w18 w19 w56 w59 w115 : Nat} (m0 : Nat) (F_m0 : List Value) (hC : pq_C L f [(m0, .inr (13, F_m0))]) (E_m0 : pq_E 229 F_m0 [(0, .int 0), (1, .int 0), (2, .int 0), (3, .int 0), (4, .int 0), (5, .int 0), (6, .int (-1)), (16, .ref w10), (19, .ref w13), (20, .ref w14), (21, .ref w15), (22, .ref w16), (23, .ref w17), (24, .ref w18), (25, .ref w19), (42, .int 0), (59, .int 0), (64, .int 0), (65, .ref w56), (68, .int 0), (69, .int 0), (70, .int 0), (71, .int 0), (72, .int 0), (73, .int 0), (74, .int 0), (75, .long 0), (76, .int 0), (79, .int 0), (97, .ref w59), (99, .int 0), (100, .int 0), (132, .int 0), (136, .int 0), (179, .int 0), (180, .int 0), (181, .long 0), (186, .int 0), (188, .int 0), (190, .ref w115), (201, .int 0), (206, .int 0), (211, .int 0)]) : Met l yX13_trees (Cond.code yX13_trees cX13_trees 1 (some .long) :: pp_ws) ({ frames := 0, cells := 0, slots := 0, locals := 0 }) (pw_Pc D cy [.ref m0] sz L f) (pq_Ql D sz L f [m0] (fun r cs1 => ∃ (G : List Value) (t : Int32), cs1 = [(m0, .inr (13, G))] ∧ pq_E 229 G [(0, .int t)] ∧ ((t = 1 ∧ (False)) ∨ (t = 0 ∧ ¬ (False) ∧ r = 0)))) 0 0 (pw_A L f sz) := by
  refine Met.ofW (cc := cX13_trees) (maxL := 1) (ret := (some .long)) (by decide) rfl ?_
  intro p e s m args below meth c s₁ B hml hv
  obtain ⟨rfl, hsz, hG, hP, hD0⟩ := hv
  have hx := B.exec
  have hb := B.bytes
  have hr := B.returns
  have hts := atoms_spec (ws := Cond.code yX13_trees cX13_trees 1 (some .long) :: pp_ws) B.pre
  have hpp := fun (w : Cond) (h : w ∈ pp_ws) => hts w (List.mem_cons_of_mem _ h)
  have hown : s.vm.findClass RX13 = some m.cls := findClass_of_methodNamed B.named
  have hlocks := B.notSynchronized
  have hw := pw_start (cy := cy) hsz hP hD0
  have hW := pq_start (as := [m0]) hw hC rfl
  have hl := lv_entry ([.ref m0]) (n := 1) (Nat.le_of_ble_eq_true rfl)
  rw [lg_entry_eq]
  generalize (lg_sl ([.ref m0]) ++ List.replicate (1 - (lg_sl ([.ref m0])).length) Slot.unset).toArray = ls at hl ⊢
  have hl : lv_has ls 1 [(0, .ref m0)] := hl
  refine lv_aload_n hx hb dX13_trees_0 rfl (lv_at hl 0 rfl) ?_
  refine lv_iconst (v := 0) hx hb dX13_trees_1 (by decide) ?_
  refine pq_put (own := RX13) (ci := 13) (C := RX13) (T := TX13) (N := 229) (kv' := [(0, .int 0), (1, .int 0), (2, .int 0), (3, .int 0), (4, .int 0), (5, .int 0), (6, .int (-1)), (16, .ref w10), (19, .ref w13), (20, .ref w14), (21, .ref w15), (22, .ref w16), (23, .ref w17), (24, .ref w18), (25, .ref w19), (42, .int 0), (59, .int 0), (64, .int 0), (65, .ref w56), (68, .int 0), (69, .int 0), (70, .int 0), (71, .int 0), (72, .int 0), (73, .int 0), (74, .int 0), (75, .long 0), (76, .int 0), (79, .int 0), (97, .ref w59), (99, .int 0), (100, .int 0), (132, .int 0), (136, .int 0), (179, .int 0), (180, .int 0), (181, .long 0), (186, .int 0), (188, .int 0), (190, .ref w115), (201, .int 0), (206, .int 0), (211, .int 0)]) hx hb hpp pi13 tyX13 tyX13_ok nmX13 rfl hown hG hW 0 rfl E_m0 0 (by decide) rfl rfl rfl rfl pp13 dX13_trees_2 (fun F_m0 H locs hW E_m0 => ?_)
  have hW : pq_W D _ s.heap L f _ [(m0, .inr (13, F_m0))] H locs := hW
  refine lv_aload_n hx hb dX13_trees_5 rfl (lv_at hl 0 rfl) ?_
  refine pq_get (own := RX13) (ci := 13) (C := RX13) (T := TX13) (N := 229) (k := 181) (v := .long 0) hx hb hpp pi13 rfl hown hG hW 0 rfl E_m0 36 rfl (by decide) pp152 dX13_trees_6 ?_
  exact pq_lret hx hb hr hlocks hW ⟨F_m0, 0, rfl, E_m0.one (i := 0) rfl, Or.inr ⟨rfl, not_false, rfl⟩⟩ dX13_trees_9
theorem pz_X13_price_1 (n1 : Int32) (c1 : ¬ n1 < 0) (c2 : n1 < 0) : False := by
  have k0 : (0 : Int32).toInt = 0 := by decide
  simp only [Int32.lt_iff_toInt_lt, Int32.le_iff_toInt_le, ← Int32.toInt_inj] at c1 c2 ⊢
  omega
set_option maxHeartbeats 4000000 in
set_option maxRecDepth 100000 in
/-- TongueHouseModel.price on a new object -/
theorem c_X13_price (l : Launch) (D : va_G) (cy : Nat → ClassId) (sz : Nat) (L : List Nat) (f : Nat → va_E) {w10 w13 w14 w15 w16 w17 w18 w19 w56 w59 w115 : Nat} (m0 : Nat) (F_m0 : List Value) (n1 : Int32) (hC : pq_C L f [(m0, .inr (13, F_m0))]) (E_m0 : pq_E 229 F_m0 [(0, .int 0), (1, .int 0), (2, .int 0), (3, .int 0), (4, .int 0), (5, .int 0), (6, .int (-1)), (16, .ref w10), (19, .ref w13), (20, .ref w14), (21, .ref w15), (22, .ref w16), (23, .ref w17), (24, .ref w18), (25, .ref w19), (42, .int 0), (59, .int 0), (64, .int 0), (65, .ref w56), (68, .int 0), (69, .int 0), (70, .int 0), (71, .int 0), (72, .int 0), (73, .int 0), (74, .int 0), (75, .long 0), (76, .int 0), (79, .int 0), (97, .ref w59), (99, .int 0), (100, .int 0), (132, .int 0), (136, .int 0), (179, .int 0), (180, .int 0), (181, .long 0), (186, .int 0), (188, .int 0), (190, .ref w115), (201, .int 0), (206, .int 0), (211, .int 0)]) : Met l yX13_price (Cond.code yX13_price cX13_price 2 (some .int) :: pp_ws) ({ frames := 0, cells := 0, slots := 0, locals := 0 }) (pw_Pc D cy [.ref m0, .int n1] sz L f) (pq_Qi D sz L f [m0] (fun r cs1 => ∃ (G : List Value) (t : Int32), cs1 = [(m0, .inr (13, G))] ∧ pq_E 229 G [(0, .int t)] ∧ ((t = 1 ∧ (False)) ∨ (t = 0 ∧ ¬ (False) ∧ r = (-1))))) 0 0 (pw_A L f sz) := by
  refine Met.ofW (cc := cX13_price) (maxL := 2) (ret := (some .int)) (by decide) rfl ?_
  intro p e s m args below meth c s₁ B hml hv
  obtain ⟨rfl, hsz, hG, hP, hD0⟩ := hv
  have hx := B.exec
  have hb := B.bytes
  have hr := B.returns
  have hts := atoms_spec (ws := Cond.code yX13_price cX13_price 2 (some .int) :: pp_ws) B.pre
  have hpp := fun (w : Cond) (h : w ∈ pp_ws) => hts w (List.mem_cons_of_mem _ h)
  have hown : s.vm.findClass RX13 = some m.cls := findClass_of_methodNamed B.named
  have hlocks := B.notSynchronized
  have hw := pw_start (cy := cy) hsz hP hD0
  have hW := pq_start (as := [m0]) hw hC rfl
  have hl := lv_entry ([.ref m0, .int n1]) (n := 2) (Nat.le_of_ble_eq_true rfl)
  rw [lg_entry_eq]
  generalize (lg_sl ([.ref m0, .int n1]) ++ List.replicate (2 - (lg_sl ([.ref m0, .int n1])).length) Slot.unset).toArray = ls at hl ⊢
  have hl : lv_has ls 2 [(0, .ref m0), (1, .int n1)] := hl
  refine lv_aload_n hx hb dX13_price_0 rfl (lv_at hl 0 rfl) ?_
  refine lv_iconst (v := 0) hx hb dX13_price_1 (by decide) ?_
  refine pq_put (own := RX13) (ci := 13) (C := RX13) (T := TX13) (N := 229) (kv' := [(0, .int 0), (1, .int 0), (2, .int 0), (3, .int 0), (4, .int 0), (5, .int 0), (6, .int (-1)), (16, .ref w10), (19, .ref w13), (20, .ref w14), (21, .ref w15), (22, .ref w16), (23, .ref w17), (24, .ref w18), (25, .ref w19), (42, .int 0), (59, .int 0), (64, .int 0), (65, .ref w56), (68, .int 0), (69, .int 0), (70, .int 0), (71, .int 0), (72, .int 0), (73, .int 0), (74, .int 0), (75, .long 0), (76, .int 0), (79, .int 0), (97, .ref w59), (99, .int 0), (100, .int 0), (132, .int 0), (136, .int 0), (179, .int 0), (180, .int 0), (181, .long 0), (186, .int 0), (188, .int 0), (190, .ref w115), (201, .int 0), (206, .int 0), (211, .int 0)]) hx hb hpp pi13 tyX13 tyX13_ok nmX13 rfl hown hG hW 0 rfl E_m0 0 (by decide) rfl rfl rfl rfl pp13 dX13_price_2 (fun F_m0 H locs hW E_m0 => ?_)
  have hW : pq_W D _ s.heap L f _ [(m0, .inr (13, F_m0))] H locs := hW
  refine lv_iload_n hx hb dX13_price_5 rfl (lv_at hl 1 rfl) ?_
  refine lv_if_lt (tgt := 17) hx hb dX13_price_6 (by decide) (fun c1 => ?_) (fun c1 => ?_)
  · refine lv_iconst (v := (-1)) hx hb dX13_price_17 (by decide) ?_
    refine lv_goto (tgt := 27) hx hb dX13_price_18 (by decide) ?_
    exact pq_iret hx hb hr hlocks rfl hW ⟨F_m0, 0, rfl, E_m0.one (i := 0) rfl, Or.inr ⟨rfl, not_false, rfl⟩⟩ dX13_price_27
  · refine lv_iload_n hx hb dX13_price_9 rfl (lv_at hl 1 rfl) ?_
    refine lv_aload_n hx hb dX13_price_10 rfl (lv_at hl 0 rfl) ?_
    refine pq_get (own := RX13) (ci := 13) (C := RX13) (T := TX13) (N := 229) (k := 186) (v := .int 0) hx hb hpp pi13 rfl hown hG hW 0 rfl E_m0 37 rfl (by decide) pp162 dX13_price_11 ?_
    refine lv_icmp_lt (tgt := 21) hx hb dX13_price_14 (by decide) (fun c2 => (pz_X13_price_1 n1 c1 c2).elim) (fun _ => ?_)
    refine lv_iconst (v := (-1)) hx hb dX13_price_17 (by decide) ?_
    refine lv_goto (tgt := 27) hx hb dX13_price_18 (by decide) ?_
    exact pq_iret hx hb hr hlocks rfl hW ⟨F_m0, 0, rfl, E_m0.one (i := 0) rfl, Or.inr ⟨rfl, not_false, rfl⟩⟩ dX13_price_27
theorem pz_X13_candidate_1 (n1 : Int32) (c1 : ¬ n1 < 0) (c2 : n1 < 0) : False := by
  have k0 : (0 : Int32).toInt = 0 := by decide
  simp only [Int32.lt_iff_toInt_lt, Int32.le_iff_toInt_le, ← Int32.toInt_inj] at c1 c2 ⊢
  omega
set_option maxHeartbeats 4000000 in
set_option maxRecDepth 100000 in
/-- TongueHouseModel.candidate on a new object -/
theorem c_X13_candidate (l : Launch) (D : va_G) (cy : Nat → ClassId) (sz : Nat) (L : List Nat) (f : Nat → va_E) {w10 w13 w14 w15 w16 w17 w18 w19 w56 w59 w115 : Nat} (m0 : Nat) (F_m0 : List Value) (n1 : Int32) (hC : pq_C L f [(m0, .inr (13, F_m0))]) (E_m0 : pq_E 229 F_m0 [(0, .int 0), (1, .int 0), (2, .int 0), (3, .int 0), (4, .int 0), (5, .int 0), (6, .int (-1)), (16, .ref w10), (19, .ref w13), (20, .ref w14), (21, .ref w15), (22, .ref w16), (23, .ref w17), (24, .ref w18), (25, .ref w19), (42, .int 0), (59, .int 0), (64, .int 0), (65, .ref w56), (68, .int 0), (69, .int 0), (70, .int 0), (71, .int 0), (72, .int 0), (73, .int 0), (74, .int 0), (75, .long 0), (76, .int 0), (79, .int 0), (97, .ref w59), (99, .int 0), (100, .int 0), (132, .int 0), (136, .int 0), (179, .int 0), (180, .int 0), (181, .long 0), (186, .int 0), (188, .int 0), (190, .ref w115), (201, .int 0), (206, .int 0), (211, .int 0)]) : Met l yX13_candidate (Cond.code yX13_candidate cX13_candidate 3 (some .int) :: pp_ws) ({ frames := 0, cells := 0, slots := 0, locals := 0 }) (pw_Pc D cy [.ref m0, .int n1] sz L f) (pq_Qi D sz L f [m0] (fun r cs1 => ∃ (G : List Value) (t : Int32), cs1 = [(m0, .inr (13, G))] ∧ pq_E 229 G [(0, .int t)] ∧ ((t = 1 ∧ (False)) ∨ (t = 0 ∧ ¬ (False) ∧ r = (-1))))) 0 0 (pw_A L f sz) := by
  refine Met.ofW (cc := cX13_candidate) (maxL := 3) (ret := (some .int)) (by decide) rfl ?_
  intro p e s m args below meth c s₁ B hml hv
  obtain ⟨rfl, hsz, hG, hP, hD0⟩ := hv
  have hx := B.exec
  have hb := B.bytes
  have hr := B.returns
  have hts := atoms_spec (ws := Cond.code yX13_candidate cX13_candidate 3 (some .int) :: pp_ws) B.pre
  have hpp := fun (w : Cond) (h : w ∈ pp_ws) => hts w (List.mem_cons_of_mem _ h)
  have hown : s.vm.findClass RX13 = some m.cls := findClass_of_methodNamed B.named
  have hlocks := B.notSynchronized
  have hw := pw_start (cy := cy) hsz hP hD0
  have hW := pq_start (as := [m0]) hw hC rfl
  have hl := lv_entry ([.ref m0, .int n1]) (n := 3) (Nat.le_of_ble_eq_true rfl)
  rw [lg_entry_eq]
  generalize (lg_sl ([.ref m0, .int n1]) ++ List.replicate (3 - (lg_sl ([.ref m0, .int n1])).length) Slot.unset).toArray = ls at hl ⊢
  have hl : lv_has ls 3 [(0, .ref m0), (1, .int n1)] := hl
  refine lv_aload_n hx hb dX13_candidate_0 rfl (lv_at hl 0 rfl) ?_
  refine lv_iconst (v := 0) hx hb dX13_candidate_1 (by decide) ?_
  refine pq_put (own := RX13) (ci := 13) (C := RX13) (T := TX13) (N := 229) (kv' := [(0, .int 0), (1, .int 0), (2, .int 0), (3, .int 0), (4, .int 0), (5, .int 0), (6, .int (-1)), (16, .ref w10), (19, .ref w13), (20, .ref w14), (21, .ref w15), (22, .ref w16), (23, .ref w17), (24, .ref w18), (25, .ref w19), (42, .int 0), (59, .int 0), (64, .int 0), (65, .ref w56), (68, .int 0), (69, .int 0), (70, .int 0), (71, .int 0), (72, .int 0), (73, .int 0), (74, .int 0), (75, .long 0), (76, .int 0), (79, .int 0), (97, .ref w59), (99, .int 0), (100, .int 0), (132, .int 0), (136, .int 0), (179, .int 0), (180, .int 0), (181, .long 0), (186, .int 0), (188, .int 0), (190, .ref w115), (201, .int 0), (206, .int 0), (211, .int 0)]) hx hb hpp pi13 tyX13 tyX13_ok nmX13 rfl hown hG hW 0 rfl E_m0 0 (by decide) rfl rfl rfl rfl pp13 dX13_candidate_2 (fun F_m0 H locs hW E_m0 => ?_)
  have hW : pq_W D _ s.heap L f _ [(m0, .inr (13, F_m0))] H locs := hW
  refine lv_aload_n hx hb dX13_candidate_5 rfl (lv_at hl 0 rfl) ?_
  refine lv_iconst (v := 0) hx hb dX13_candidate_6 (by decide) ?_
  refine pq_put (own := RX13) (ci := 13) (C := RX13) (T := TX13) (N := 229) (kv' := [(0, .int 0), (1, .int 0), (2, .int 0), (3, .int 0), (4, .int 0), (5, .int 0), (6, .int (-1)), (16, .ref w10), (19, .ref w13), (20, .ref w14), (21, .ref w15), (22, .ref w16), (23, .ref w17), (24, .ref w18), (25, .ref w19), (42, .int 0), (59, .int 0), (64, .int 0), (65, .ref w56), (68, .int 0), (69, .int 0), (70, .int 0), (71, .int 0), (72, .int 0), (73, .int 0), (74, .int 0), (75, .long 0), (76, .int 0), (79, .int 0), (97, .ref w59), (99, .int 0), (100, .int 0), (132, .int 0), (136, .int 0), (179, .int 0), (180, .int 0), (181, .long 0), (186, .int 0), (188, .int 0), (190, .ref w115), (201, .int 0), (206, .int 0), (211, .int 0)]) hx hb hpp pi13 tyX13 tyX13_ok nmX13 rfl hown hG hW 0 rfl E_m0 70 (by decide) rfl rfl rfl rfl pp109 dX13_candidate_7 (fun F_m0 H locs hW E_m0 => ?_)
  have hW : pq_W D _ s.heap L f _ [(m0, .inr (13, F_m0))] H locs := hW
  refine lv_iload_n hx hb dX13_candidate_10 rfl (lv_at hl 1 rfl) ?_
  refine lv_if_lt (tgt := 22) hx hb dX13_candidate_11 (by decide) (fun c1 => ?_) (fun c1 => ?_)
  · refine lv_iconst (v := (-1)) hx hb dX13_candidate_22 (by decide) ?_
    exact pq_iret hx hb hr hlocks rfl hW ⟨F_m0, 0, rfl, E_m0.one (i := 0) rfl, Or.inr ⟨rfl, not_false, rfl⟩⟩ dX13_candidate_23
  · refine lv_iload_n hx hb dX13_candidate_14 rfl (lv_at hl 1 rfl) ?_
    refine lv_aload_n hx hb dX13_candidate_15 rfl (lv_at hl 0 rfl) ?_
    refine pq_get (own := RX13) (ci := 13) (C := RX13) (T := TX13) (N := 229) (k := 201) (v := .int 0) hx hb hpp pi13 rfl hown hG hW 0 rfl E_m0 40 rfl (by decide) pp164 dX13_candidate_16 ?_
    refine lv_icmp_lt (tgt := 24) hx hb dX13_candidate_19 (by decide) (fun c2 => (pz_X13_candidate_1 n1 c1 c2).elim) (fun _ => ?_)
    refine lv_iconst (v := (-1)) hx hb dX13_candidate_22 (by decide) ?_
    exact pq_iret hx hb hr hlocks rfl hW ⟨F_m0, 0, rfl, E_m0.one (i := 0) rfl, Or.inr ⟨rfl, not_false, rfl⟩⟩ dX13_candidate_23
set_option maxHeartbeats 4000000 in
set_option maxRecDepth 100000 in
/-- TongueHouseModel.noPlace on a new object -/
theorem c_X13_noPlace (l : Launch) (D : va_G) (cy : Nat → ClassId) (sz : Nat) (L : List Nat) (f : Nat → va_E) {w10 w13 w14 w15 w16 w17 w18 w19 w56 w59 w115 : Nat} (m0 : Nat) (F_m0 : List Value) (n1 : Int32) (hC : pq_C L f [(m0, .inr (13, F_m0))]) (E_m0 : pq_E 229 F_m0 [(0, .int 0), (1, .int 0), (2, .int 0), (3, .int 0), (4, .int 0), (5, .int 0), (6, .int (-1)), (16, .ref w10), (19, .ref w13), (20, .ref w14), (21, .ref w15), (22, .ref w16), (23, .ref w17), (24, .ref w18), (25, .ref w19), (42, .int 0), (59, .int 0), (64, .int 0), (65, .ref w56), (68, .int 0), (69, .int 0), (70, .int 0), (71, .int 0), (72, .int 0), (73, .int 0), (74, .int 0), (75, .long 0), (76, .int 0), (79, .int 0), (97, .ref w59), (99, .int 0), (100, .int 0), (132, .int 0), (136, .int 0), (179, .int 0), (180, .int 0), (181, .long 0), (186, .int 0), (188, .int 0), (190, .ref w115), (201, .int 0), (206, .int 0), (211, .int 0)]) : Met l yX13_noPlace (Cond.code yX13_noPlace cX13_noPlace 2 (some .boolean) :: pp_ws) ({ frames := 0, cells := 0, slots := 0, locals := 0 }) (pw_Pc D cy [.ref m0, .int n1] sz L f) (pq_Qi D sz L f [m0] (fun r cs1 => (∃ (F_m0 : List Value), n1 < 0 ∧ r = 1 ∧ cs1 = [(m0, .inr (13, F_m0))] ∧ pq_E 229 F_m0 [(0, .int 1), (1, .int 0), (2, .int 0), (3, .int 0), (4, .int 0), (5, .int 0), (6, .int (-1)), (16, .ref w10), (19, .ref w13), (20, .ref w14), (21, .ref w15), (22, .ref w16), (23, .ref w17), (24, .ref w18), (25, .ref w19), (42, .int 0), (59, .int 0), (64, .int 0), (65, .ref w56), (68, .int 0), (69, .int 0), (70, .int 0), (71, .int 0), (72, .int 0), (73, .int 0), (74, .int 0), (75, .long 0), (76, .int 0), (79, .int 0), (97, .ref w59), (99, .int 0), (100, .int 0), (132, .int 0), (136, .int 0), (179, .int 0), (180, .int 0), (181, .long 0), (186, .int 0), (188, .int 0), (190, .ref w115), (201, .int 0), (206, .int 0), (211, .int 0)]) ∨ (∃ (F_m0 : List Value), ¬ n1 < 0 ∧ n1 ≤ 7 ∧ r = 0 ∧ cs1 = [(m0, .inr (13, F_m0))] ∧ pq_E 229 F_m0 [(0, .int 0), (1, .int 0), (2, .int 0), (3, .int 0), (4, .int 0), (5, .int 0), (6, .int (-1)), (16, .ref w10), (19, .ref w13), (20, .ref w14), (21, .ref w15), (22, .ref w16), (23, .ref w17), (24, .ref w18), (25, .ref w19), (42, .int 0), (59, .int 0), (64, .int 0), (65, .ref w56), (68, .int 0), (69, .int 0), (70, .int 0), (71, .int 0), (72, .int 0), (73, .int 0), (74, .int 0), (75, .long 0), (76, .int 0), (79, .int 0), (97, .ref w59), (99, .int 0), (100, .int 0), (132, .int 0), (136, .int 0), (179, .int 0), (180, .int 0), (181, .long 0), (186, .int 0), (188, .int 0), (190, .ref w115), (201, .int 0), (206, .int 0), (211, .int 0)]) ∨ (∃ (F_m0 : List Value), ¬ n1 < 0 ∧ ¬ n1 ≤ 7 ∧ r = 1 ∧ cs1 = [(m0, .inr (13, F_m0))] ∧ pq_E 229 F_m0 [(0, .int 1), (1, .int 0), (2, .int 0), (3, .int 0), (4, .int 0), (5, .int 0), (6, .int (-1)), (16, .ref w10), (19, .ref w13), (20, .ref w14), (21, .ref w15), (22, .ref w16), (23, .ref w17), (24, .ref w18), (25, .ref w19), (42, .int 0), (59, .int 0), (64, .int 0), (65, .ref w56), (68, .int 0), (69, .int 0), (70, .int 0), (71, .int 0), (72, .int 0), (73, .int 0), (74, .int 0), (75, .long 0), (76, .int 0), (79, .int 0), (97, .ref w59), (99, .int 0), (100, .int 0), (132, .int 0), (136, .int 0), (179, .int 0), (180, .int 0), (181, .long 0), (186, .int 0), (188, .int 0), (190, .ref w115), (201, .int 0), (206, .int 0), (211, .int 0)]))) 0 0 (pw_A L f sz) := by
  refine Met.ofW (cc := cX13_noPlace) (maxL := 2) (ret := (some .boolean)) (by decide) rfl ?_
  intro p e s m args below meth c s₁ B hml hv
  obtain ⟨rfl, hsz, hG, hP, hD0⟩ := hv
  have hx := B.exec
  have hb := B.bytes
  have hr := B.returns
  have hts := atoms_spec (ws := Cond.code yX13_noPlace cX13_noPlace 2 (some .boolean) :: pp_ws) B.pre
  have hpp := fun (w : Cond) (h : w ∈ pp_ws) => hts w (List.mem_cons_of_mem _ h)
  have hown : s.vm.findClass RX13 = some m.cls := findClass_of_methodNamed B.named
  have hlocks := B.notSynchronized
  have hw := pw_start (cy := cy) hsz hP hD0
  have hW := pq_start (as := [m0]) hw hC rfl
  have hl := lv_entry ([.ref m0, .int n1]) (n := 2) (Nat.le_of_ble_eq_true rfl)
  rw [lg_entry_eq]
  generalize (lg_sl ([.ref m0, .int n1]) ++ List.replicate (2 - (lg_sl ([.ref m0, .int n1])).length) Slot.unset).toArray = ls at hl ⊢
  have hl : lv_has ls 2 [(0, .ref m0), (1, .int n1)] := hl
  refine lv_aload_n hx hb dX13_noPlace_0 rfl (lv_at hl 0 rfl) ?_
  refine lv_iload_n hx hb dX13_noPlace_1 rfl (lv_at hl 1 rfl) ?_
  refine lv_if_lt (tgt := 11) hx hb dX13_noPlace_2 (by decide) (fun c1 => ?_) (fun c1 => ?_)
  · refine lv_iconst (v := 1) hx hb dX13_noPlace_11 (by decide) ?_
    refine lv_goto (tgt := 16) hx hb dX13_noPlace_12 (by decide) ?_
    refine pq_put (own := RX13) (ci := 13) (C := RX13) (T := TX13) (N := 229) (kv' := [(0, .int 1), (1, .int 0), (2, .int 0), (3, .int 0), (4, .int 0), (5, .int 0), (6, .int (-1)), (16, .ref w10), (19, .ref w13), (20, .ref w14), (21, .ref w15), (22, .ref w16), (23, .ref w17), (24, .ref w18), (25, .ref w19), (42, .int 0), (59, .int 0), (64, .int 0), (65, .ref w56), (68, .int 0), (69, .int 0), (70, .int 0), (71, .int 0), (72, .int 0), (73, .int 0), (74, .int 0), (75, .long 0), (76, .int 0), (79, .int 0), (97, .ref w59), (99, .int 0), (100, .int 0), (132, .int 0), (136, .int 0), (179, .int 0), (180, .int 0), (181, .long 0), (186, .int 0), (188, .int 0), (190, .ref w115), (201, .int 0), (206, .int 0), (211, .int 0)]) hx hb hpp pi13 tyX13 tyX13_ok nmX13 rfl hown hG hW 0 rfl E_m0 0 (by decide) rfl rfl rfl rfl pp13 dX13_noPlace_16 (fun F_m0 H locs hW E_m0 => ?_)
    have hW : pq_W D _ s.heap L f _ [(m0, .inr (13, F_m0))] H locs := hW
    refine lv_aload_n hx hb dX13_noPlace_19 rfl (lv_at hl 0 rfl) ?_
    refine pq_get (own := RX13) (ci := 13) (C := RX13) (T := TX13) (N := 229) (k := 0) (v := .int 1) hx hb hpp pi13 rfl hown hG hW 0 rfl E_m0 0 rfl (by decide) pp13 dX13_noPlace_20 ?_
    refine lv_if_eq (tgt := 30) hx hb dX13_noPlace_23 (by decide) (fun c9 => absurd c9 (by decide)) (fun _ => ?_)
    refine lv_iconst (v := 1) hx hb dX13_noPlace_26 (by decide) ?_
    refine lv_goto (tgt := 31) hx hb dX13_noPlace_27 (by decide) ?_
    exact pq_iret hx hb hr hlocks rfl hW (Or.inl ⟨_, c1, rfl, rfl, E_m0⟩) dX13_noPlace_31
  · refine lv_iload_n hx hb dX13_noPlace_5 rfl (lv_at hl 1 rfl) ?_
    refine lv_bipush (v := 7) hx hb dX13_noPlace_6 (by decide) ?_
    refine lv_icmp_le (tgt := 15) hx hb dX13_noPlace_8 (by decide) (fun c2 => ?_) (fun c2 => ?_)
    · refine lv_iconst (v := 0) hx hb dX13_noPlace_15 (by decide) ?_
      refine pq_put (own := RX13) (ci := 13) (C := RX13) (T := TX13) (N := 229) (kv' := [(0, .int 0), (1, .int 0), (2, .int 0), (3, .int 0), (4, .int 0), (5, .int 0), (6, .int (-1)), (16, .ref w10), (19, .ref w13), (20, .ref w14), (21, .ref w15), (22, .ref w16), (23, .ref w17), (24, .ref w18), (25, .ref w19), (42, .int 0), (59, .int 0), (64, .int 0), (65, .ref w56), (68, .int 0), (69, .int 0), (70, .int 0), (71, .int 0), (72, .int 0), (73, .int 0), (74, .int 0), (75, .long 0), (76, .int 0), (79, .int 0), (97, .ref w59), (99, .int 0), (100, .int 0), (132, .int 0), (136, .int 0), (179, .int 0), (180, .int 0), (181, .long 0), (186, .int 0), (188, .int 0), (190, .ref w115), (201, .int 0), (206, .int 0), (211, .int 0)]) hx hb hpp pi13 tyX13 tyX13_ok nmX13 rfl hown hG hW 0 rfl E_m0 0 (by decide) rfl rfl rfl rfl pp13 dX13_noPlace_16 (fun F_m0 H locs hW E_m0 => ?_)
      have hW : pq_W D _ s.heap L f _ [(m0, .inr (13, F_m0))] H locs := hW
      refine lv_aload_n hx hb dX13_noPlace_19 rfl (lv_at hl 0 rfl) ?_
      refine pq_get (own := RX13) (ci := 13) (C := RX13) (T := TX13) (N := 229) (k := 0) (v := .int 0) hx hb hpp pi13 rfl hown hG hW 0 rfl E_m0 0 rfl (by decide) pp13 dX13_noPlace_20 ?_
      refine lv_if_eq (tgt := 30) hx hb dX13_noPlace_23 (by decide) (fun _ => ?_) (fun c9 => absurd c9 (by decide))
      refine lv_iconst (v := 0) hx hb dX13_noPlace_30 (by decide) ?_
      exact pq_iret hx hb hr hlocks rfl hW (Or.inr (Or.inl ⟨_, c1, c2, rfl, rfl, E_m0⟩)) dX13_noPlace_31
    · refine lv_iconst (v := 1) hx hb dX13_noPlace_11 (by decide) ?_
      refine lv_goto (tgt := 16) hx hb dX13_noPlace_12 (by decide) ?_
      refine pq_put (own := RX13) (ci := 13) (C := RX13) (T := TX13) (N := 229) (kv' := [(0, .int 1), (1, .int 0), (2, .int 0), (3, .int 0), (4, .int 0), (5, .int 0), (6, .int (-1)), (16, .ref w10), (19, .ref w13), (20, .ref w14), (21, .ref w15), (22, .ref w16), (23, .ref w17), (24, .ref w18), (25, .ref w19), (42, .int 0), (59, .int 0), (64, .int 0), (65, .ref w56), (68, .int 0), (69, .int 0), (70, .int 0), (71, .int 0), (72, .int 0), (73, .int 0), (74, .int 0), (75, .long 0), (76, .int 0), (79, .int 0), (97, .ref w59), (99, .int 0), (100, .int 0), (132, .int 0), (136, .int 0), (179, .int 0), (180, .int 0), (181, .long 0), (186, .int 0), (188, .int 0), (190, .ref w115), (201, .int 0), (206, .int 0), (211, .int 0)]) hx hb hpp pi13 tyX13 tyX13_ok nmX13 rfl hown hG hW 0 rfl E_m0 0 (by decide) rfl rfl rfl rfl pp13 dX13_noPlace_16 (fun F_m0 H locs hW E_m0 => ?_)
      have hW : pq_W D _ s.heap L f _ [(m0, .inr (13, F_m0))] H locs := hW
      refine lv_aload_n hx hb dX13_noPlace_19 rfl (lv_at hl 0 rfl) ?_
      refine pq_get (own := RX13) (ci := 13) (C := RX13) (T := TX13) (N := 229) (k := 0) (v := .int 1) hx hb hpp pi13 rfl hown hG hW 0 rfl E_m0 0 rfl (by decide) pp13 dX13_noPlace_20 ?_
      refine lv_if_eq (tgt := 30) hx hb dX13_noPlace_23 (by decide) (fun c9 => absurd c9 (by decide)) (fun _ => ?_)
      refine lv_iconst (v := 1) hx hb dX13_noPlace_26 (by decide) ?_
      refine lv_goto (tgt := 31) hx hb dX13_noPlace_27 (by decide) ?_
      exact pq_iret hx hb hr hlocks rfl hW (Or.inr (Or.inr (⟨_, c1, c2, rfl, rfl, E_m0⟩))) dX13_noPlace_31
theorem pz_X13_reading_1 (n2 : Int32) (c1 : n2 < 0) : n2 < 0 ∨ 7 < n2 := by
  have k0 : (0 : Int32).toInt = 0 := by decide
  have k7 : (7 : Int32).toInt = 7 := by decide
  simp only [Int32.lt_iff_toInt_lt, Int32.le_iff_toInt_le, ← Int32.toInt_inj] at c1 ⊢
  omega
theorem pz_X13_reading_2 (n1 n2 : Int32) (c1 : ¬ n2 < 0) (c2 : n2 ≤ 7) (c3 : n1 < 0) : ¬ (n2 < 0 ∨ 7 < n2) := by
  have k0 : (0 : Int32).toInt = 0 := by decide
  have k7 : (7 : Int32).toInt = 7 := by decide
  simp only [Int32.lt_iff_toInt_lt, Int32.le_iff_toInt_le, ← Int32.toInt_inj] at c1 c2 c3 ⊢
  omega
theorem pz_X13_reading_3 (n1 n2 : Int32) (c1 : ¬ n2 < 0) (c2 : n2 ≤ 7) (c3 : ¬ n1 < 0) (c4 : n1 < 0) : False := by
  have k0 : (0 : Int32).toInt = 0 := by decide
  have k7 : (7 : Int32).toInt = 7 := by decide
  simp only [Int32.lt_iff_toInt_lt, Int32.le_iff_toInt_le, ← Int32.toInt_inj] at c1 c2 c3 c4 ⊢
  omega
theorem pz_X13_reading_4 (n1 n2 : Int32) (c1 : ¬ n2 < 0) (c2 : n2 ≤ 7) (c3 : ¬ n1 < 0) : ¬ (n2 < 0 ∨ 7 < n2) := by
  have k0 : (0 : Int32).toInt = 0 := by decide
  have k7 : (7 : Int32).toInt = 7 := by decide
  simp only [Int32.lt_iff_toInt_lt, Int32.le_iff_toInt_le, ← Int32.toInt_inj] at c1 c2 c3 ⊢
  omega
theorem pz_X13_reading_5 (n2 : Int32) (c1 : ¬ n2 < 0) (c2 : ¬ n2 ≤ 7) : n2 < 0 ∨ 7 < n2 := by
  have k0 : (0 : Int32).toInt = 0 := by decide
  have k7 : (7 : Int32).toInt = 7 := by decide
  simp only [Int32.lt_iff_toInt_lt, Int32.le_iff_toInt_le, ← Int32.toInt_inj] at c1 c2 ⊢
  omega
set_option maxHeartbeats 4000000 in
set_option maxRecDepth 100000 in
/-- TongueHouseModel.reading on a new object -/
theorem c_X13_reading (l : Launch) (D : va_G) (cy : Nat → ClassId) (sz : Nat) (L : List Nat) (f : Nat → va_E) {w10 w13 w14 w15 w16 w17 w18 w19 w56 w59 w115 : Nat} (m0 : Nat) (F_m0 : List Value) (n1 : Int32) (n2 : Int32) (hC : pq_C L f [(m0, .inr (13, F_m0))]) (E_m0 : pq_E 229 F_m0 [(0, .int 0), (1, .int 0), (2, .int 0), (3, .int 0), (4, .int 0), (5, .int 0), (6, .int (-1)), (16, .ref w10), (19, .ref w13), (20, .ref w14), (21, .ref w15), (22, .ref w16), (23, .ref w17), (24, .ref w18), (25, .ref w19), (42, .int 0), (59, .int 0), (64, .int 0), (65, .ref w56), (68, .int 0), (69, .int 0), (70, .int 0), (71, .int 0), (72, .int 0), (73, .int 0), (74, .int 0), (75, .long 0), (76, .int 0), (79, .int 0), (97, .ref w59), (99, .int 0), (100, .int 0), (132, .int 0), (136, .int 0), (179, .int 0), (180, .int 0), (181, .long 0), (186, .int 0), (188, .int 0), (190, .ref w115), (201, .int 0), (206, .int 0), (211, .int 0)]) : Met l yX13_reading (Cond.code yX13_reading cX13_reading 4 (some .int) :: pp_ws) ({ frames := 1, cells := 0, slots := 0, locals := 21 }) (pw_Pc D cy [.ref m0, .int n1, .int n2] sz L f) (pq_Qi D sz L f [m0] (fun r cs1 => ∃ (G : List Value) (t : Int32), cs1 = [(m0, .inr (13, G))] ∧ pq_E 229 G [(0, .int t)] ∧ ((t = 1 ∧ (n2 < 0 ∨ 7 < n2)) ∨ (t = 0 ∧ ¬ (n2 < 0 ∨ 7 < n2) ∧ r = (-1))))) 0 0 (pw_A L f sz) := by
  refine Met.ofW (cc := cX13_reading) (maxL := 4) (ret := (some .int)) (by decide) rfl ?_
  intro p e s m args below meth c s₁ B hml hv
  obtain ⟨rfl, hsz, hG, hP, hD0⟩ := hv
  have hx := B.exec
  have hb := B.bytes
  have hr := B.returns
  have hts := atoms_spec (ws := Cond.code yX13_reading cX13_reading 4 (some .int) :: pp_ws) B.pre
  have hpp := fun (w : Cond) (h : w ∈ pp_ws) => hts w (List.mem_cons_of_mem _ h)
  have hown : s.vm.findClass RX13 = some m.cls := findClass_of_methodNamed B.named
  have hlocks := B.notSynchronized
  have hw := pw_start (cy := cy) hsz hP hD0
  have hW := pq_start (as := [m0]) hw hC rfl
  have hl := lv_entry ([.ref m0, .int n1, .int n2]) (n := 4) (Nat.le_of_ble_eq_true rfl)
  rw [lg_entry_eq]
  generalize (lg_sl ([.ref m0, .int n1, .int n2]) ++ List.replicate (4 - (lg_sl ([.ref m0, .int n1, .int n2])).length) Slot.unset).toArray = ls at hl ⊢
  have hl : lv_has ls 4 [(0, .ref m0), (1, .int n1), (2, .int n2)] := hl
  refine lv_aload_n hx hb dX13_reading_0 rfl (lv_at hl 0 rfl) ?_
  refine lv_iload_n hx hb dX13_reading_1 rfl (lv_at hl 2 rfl) ?_
  refine pq_calli hW [0] [] (by decide) rfl rfl (fun f9 hw9 hC9 => va_runV (C := RX13) (As := [.int n2]) (rest := []) ⟨hx, hb, hml, hown, hts⟩ (c_X13_noPlace l D cy _ L f9 m0 F_m0 n2 hC9 E_m0) (cwV 1 hts (pp_gV pp174 pp173 pp175 pp176 pp20) rfl rfl rfl pd_X13_noPlace ⟨Nat.le_of_ble_eq_true rfl, Nat.le_of_ble_eq_true rfl⟩) (pq_preV hG hw9 hC9 (j := 0) rfl rfl) rfl rfl hl.1 rfl (lv_room (Nat.le_of_ble_eq_true rfl)) dX13_reading_2 ⟨Nat.le_of_ble_eq_true rfl, Nat.le_of_ble_eq_true rfl⟩) (fun r cs1 H locs hP hW => ?_)
  rcases hP with ⟨F_m0, c1, rfl, rfl, E_m0⟩ | ⟨F_m0, c1, c2, rfl, rfl, E_m0⟩ | ⟨F_m0, c1, c2, rfl, rfl, E_m0⟩
  · have hW : pq_W D _ s.heap L f _ [(m0, .inr (13, F_m0))] H locs := hW
    refine lv_if_eq (tgt := 10) hx hb dX13_reading_5 (by decide) (fun c9 => absurd c9 (by decide)) (fun _ => ?_)
    refine lv_iconst (v := 0) hx hb dX13_reading_8 (by decide) ?_
    exact pq_iret hx hb hr hlocks rfl hW ⟨F_m0, 1, rfl, E_m0.one (i := 0) rfl, Or.inl ⟨rfl, (pz_X13_reading_1 n2 c1)⟩⟩ dX13_reading_9
  · have hW : pq_W D _ s.heap L f _ [(m0, .inr (13, F_m0))] H locs := hW
    refine lv_if_eq (tgt := 10) hx hb dX13_reading_5 (by decide) (fun _ => ?_) (fun c9 => absurd c9 (by decide))
    refine lv_iload_n hx hb dX13_reading_10 rfl (lv_at hl 1 rfl) ?_
    refine lv_if_lt (tgt := 22) hx hb dX13_reading_11 (by decide) (fun c3 => ?_) (fun c3 => ?_)
    · refine lv_iconst (v := (-1)) hx hb dX13_reading_22 (by decide) ?_
      exact pq_iret hx hb hr hlocks rfl hW ⟨F_m0, 0, rfl, E_m0.one (i := 0) rfl, Or.inr ⟨rfl, (pz_X13_reading_2 n1 n2 c1 c2 c3), rfl⟩⟩ dX13_reading_23
    · refine lv_iload_n hx hb dX13_reading_14 rfl (lv_at hl 1 rfl) ?_
      refine lv_aload_n hx hb dX13_reading_15 rfl (lv_at hl 0 rfl) ?_
      refine pq_get (own := RX13) (ci := 13) (C := RX13) (T := TX13) (N := 229) (k := 186) (v := .int 0) hx hb hpp pi13 rfl hown hG hW 0 rfl E_m0 37 rfl (by decide) pp162 dX13_reading_16 ?_
      refine lv_icmp_lt (tgt := 24) hx hb dX13_reading_19 (by decide) (fun c4 => (pz_X13_reading_3 n1 n2 c1 c2 c3 c4).elim) (fun _ => ?_)
      refine lv_iconst (v := (-1)) hx hb dX13_reading_22 (by decide) ?_
      exact pq_iret hx hb hr hlocks rfl hW ⟨F_m0, 0, rfl, E_m0.one (i := 0) rfl, Or.inr ⟨rfl, (pz_X13_reading_4 n1 n2 c1 c2 c3), rfl⟩⟩ dX13_reading_23
  · have hW : pq_W D _ s.heap L f _ [(m0, .inr (13, F_m0))] H locs := hW
    refine lv_if_eq (tgt := 10) hx hb dX13_reading_5 (by decide) (fun c9 => absurd c9 (by decide)) (fun _ => ?_)
    refine lv_iconst (v := 0) hx hb dX13_reading_8 (by decide) ?_
    exact pq_iret hx hb hr hlocks rfl hW ⟨F_m0, 1, rfl, E_m0.one (i := 0) rfl, Or.inl ⟨rfl, (pz_X13_reading_5 n2 c1 c2)⟩⟩ dX13_reading_9
set_option maxHeartbeats 4000000 in
set_option maxRecDepth 100000 in
/-- TongueHouseModel.noTree on a new object -/
theorem c_X13_noTree (l : Launch) (D : va_G) (cy : Nat → ClassId) (sz : Nat) (L : List Nat) (f : Nat → va_E) {w10 w13 w14 w15 w16 w17 w18 w19 w56 w59 w115 : Nat} (m0 : Nat) (F_m0 : List Value) (n1 : Int32) (hC : pq_C L f [(m0, .inr (13, F_m0))]) (E_m0 : pq_E 229 F_m0 [(0, .int 0), (1, .int 0), (2, .int 0), (3, .int 0), (4, .int 0), (5, .int 0), (6, .int (-1)), (16, .ref w10), (19, .ref w13), (20, .ref w14), (21, .ref w15), (22, .ref w16), (23, .ref w17), (24, .ref w18), (25, .ref w19), (42, .int 0), (59, .int 0), (64, .int 0), (65, .ref w56), (68, .int 0), (69, .int 0), (70, .int 0), (71, .int 0), (72, .int 0), (73, .int 0), (74, .int 0), (75, .long 0), (76, .int 0), (79, .int 0), (97, .ref w59), (99, .int 0), (100, .int 0), (132, .int 0), (136, .int 0), (179, .int 0), (180, .int 0), (181, .long 0), (186, .int 0), (188, .int 0), (190, .ref w115), (201, .int 0), (206, .int 0), (211, .int 0)]) : Met l yX13_noTree (Cond.code yX13_noTree cX13_noTree 4 (some .boolean) :: pp_ws) ({ frames := 0, cells := 0, slots := 0, locals := 0 }) (pw_Pc D cy [.ref m0, .int n1] sz L f) (pq_Qi D sz L f [m0] (fun r cs1 => (r = 1 ∧ cs1 = [(m0, .inr (13, F_m0))]))) 0 0 (pw_A L f sz) := by
  refine Met.ofW (cc := cX13_noTree) (maxL := 4) (ret := (some .boolean)) (by decide) rfl ?_
  intro p e s m args below meth c s₁ B hml hv
  obtain ⟨rfl, hsz, hG, hP, hD0⟩ := hv
  have hx := B.exec
  have hb := B.bytes
  have hr := B.returns
  have hts := atoms_spec (ws := Cond.code yX13_noTree cX13_noTree 4 (some .boolean) :: pp_ws) B.pre
  have hpp := fun (w : Cond) (h : w ∈ pp_ws) => hts w (List.mem_cons_of_mem _ h)
  have hown : s.vm.findClass RX13 = some m.cls := findClass_of_methodNamed B.named
  have hlocks := B.notSynchronized
  have hw := pw_start (cy := cy) hsz hP hD0
  have hW := pq_start (as := [m0]) hw hC rfl
  have hl := lv_entry ([.ref m0, .int n1]) (n := 4) (Nat.le_of_ble_eq_true rfl)
  rw [lg_entry_eq]
  generalize (lg_sl ([.ref m0, .int n1]) ++ List.replicate (4 - (lg_sl ([.ref m0, .int n1])).length) Slot.unset).toArray = ls at hl ⊢
  have hl : lv_has ls 4 [(0, .ref m0), (1, .int n1)] := hl
  refine lv_aload_n hx hb dX13_noTree_0 rfl (lv_at hl 0 rfl) ?_
  refine pq_get (own := RX13) (ci := 13) (C := RX13) (T := TX13) (N := 229) (k := 71) (v := .int 0) hx hb hpp pi13 rfl hown hG hW 0 rfl E_m0 22 rfl (by decide) pp100 dX13_noTree_1 ?_
  refine lv_iconst (v := 1) hx hb dX13_noTree_4 (by decide) ?_
  refine lv_icmp_eq (tgt := 10) hx hb dX13_noTree_5 (by decide) (fun c9 => absurd c9 (by decide)) (fun _ => ?_)
  refine lv_iconst (v := 1) hx hb dX13_noTree_8 (by decide) ?_
  exact pq_iret hx hb hr hlocks rfl hW ⟨rfl, rfl⟩ dX13_noTree_9
