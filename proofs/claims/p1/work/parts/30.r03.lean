theorem pz_X13_tree_1 (n1 : Int32) (c1 : n1 < 0) : n1 < 0 ∨ 7 < n1 := by
  have k0 : (0 : Int32).toInt = 0 := by decide
  have k7 : (7 : Int32).toInt = 7 := by decide
  simp only [Int32.lt_iff_toInt_lt, Int32.le_iff_toInt_le, ← Int32.toInt_inj] at c1 ⊢
  omega
theorem pz_X13_tree_2 (n1 : Int32) (c1 : ¬ n1 < 0) (c2 : n1 ≤ 7) : ¬ (n1 < 0 ∨ 7 < n1) := by
  have k0 : (0 : Int32).toInt = 0 := by decide
  have k7 : (7 : Int32).toInt = 7 := by decide
  simp only [Int32.lt_iff_toInt_lt, Int32.le_iff_toInt_le, ← Int32.toInt_inj] at c1 c2 ⊢
  omega
theorem pz_X13_tree_3 (n1 : Int32) (c1 : ¬ n1 < 0) (c2 : ¬ n1 ≤ 7) : n1 < 0 ∨ 7 < n1 := by
  have k0 : (0 : Int32).toInt = 0 := by decide
  have k7 : (7 : Int32).toInt = 7 := by decide
  simp only [Int32.lt_iff_toInt_lt, Int32.le_iff_toInt_le, ← Int32.toInt_inj] at c1 c2 ⊢
  omega
set_option maxHeartbeats 4000000 in
set_option maxRecDepth 100000 in
/-- TongueHouseModel.tree on a new object -/
theorem c_X13_tree (l : Launch) (D : va_G) (cy : Nat → ClassId) (sz : Nat) (L : List Nat) (f : Nat → va_E) {w10 w13 w14 w15 w16 w17 w18 w19 w56 w59 w115 : Nat} (m0 : Nat) (F_m0 : List Value) (n1 : Int32) (hC : pq_C L f [(m0, .inr (13, F_m0))]) (E_m0 : pq_E 229 F_m0 [(0, .int 0), (1, .int 0), (2, .int 0), (3, .int 0), (4, .int 0), (5, .int 0), (6, .int (-1)), (16, .ref w10), (19, .ref w13), (20, .ref w14), (21, .ref w15), (22, .ref w16), (23, .ref w17), (24, .ref w18), (25, .ref w19), (42, .int 0), (59, .int 0), (64, .int 0), (65, .ref w56), (68, .int 0), (69, .int 0), (70, .int 0), (71, .int 0), (72, .int 0), (73, .int 0), (74, .int 0), (75, .long 0), (76, .int 0), (79, .int 0), (97, .ref w59), (99, .int 0), (100, .int 0), (132, .int 0), (136, .int 0), (179, .int 0), (180, .int 0), (181, .long 0), (186, .int 0), (188, .int 0), (190, .ref w115), (201, .int 0), (206, .int 0), (211, .int 0)]) : Met l yX13_tree (Cond.code yX13_tree cX13_tree 3 (some .int) :: pp_ws) ({ frames := 1, cells := 0, slots := 0, locals := 23 }) (pw_Pc D cy [.ref m0, .int n1] sz L f) (pq_Qi D sz L f [m0] (fun r cs1 => ∃ (G : List Value) (t : Int32), cs1 = [(m0, .inr (13, G))] ∧ pq_E 229 G [(0, .int t)] ∧ ((t = 1 ∧ (n1 < 0 ∨ 7 < n1)) ∨ (t = 0 ∧ ¬ (n1 < 0 ∨ 7 < n1) ∧ r = (-1))))) 0 0 (pw_A L f sz) := by
  refine Met.ofW (cc := cX13_tree) (maxL := 3) (ret := (some .int)) (by decide) rfl ?_
  intro p e s m args below meth c s₁ B hml hv
  obtain ⟨rfl, hsz, hG, hP, hD0⟩ := hv
  have hx := B.exec
  have hb := B.bytes
  have hr := B.returns
  have hts := atoms_spec (ws := Cond.code yX13_tree cX13_tree 3 (some .int) :: pp_ws) B.pre
  have hpp := fun (w : Cond) (h : w ∈ pp_ws) => hts w (List.mem_cons_of_mem _ h)
  have hown : s.vm.findClass RX13 = some m.cls := findClass_of_methodNamed B.named
  have hlocks := B.notSynchronized
  have hw := pw_start (cy := cy) hsz hP hD0
  have hW := pq_start (as := [m0]) hw hC rfl
  have hl := lv_entry ([.ref m0, .int n1]) (n := 3) (Nat.le_of_ble_eq_true rfl)
  rw [lg_entry_eq]
  generalize (lg_sl ([.ref m0, .int n1]) ++ List.replicate (3 - (lg_sl ([.ref m0, .int n1])).length) Slot.unset).toArray = ls at hl ⊢
  have hl : lv_has ls 3 [(0, .ref m0), (1, .int n1)] := hl
  refine lv_aload_n hx hb dX13_tree_0 rfl (lv_at hl 0 rfl) ?_
  refine lv_iload_n hx hb dX13_tree_1 rfl (lv_at hl 1 rfl) ?_
  refine pq_calli hW [0] [] (by decide) rfl rfl (fun f9 hw9 hC9 => va_runV (C := RX13) (As := [.int n1]) (rest := []) ⟨hx, hb, hml, hown, hts⟩ (c_X13_noPlace l D cy _ L f9 m0 F_m0 n1 hC9 E_m0) (cwV 1 hts (pp_gV pp174 pp173 pp175 pp176 pp20) rfl rfl rfl pd_X13_noPlace ⟨Nat.le_of_ble_eq_true rfl, Nat.le_of_ble_eq_true rfl⟩) (pq_preV hG hw9 hC9 (j := 0) rfl rfl) rfl rfl hl.1 rfl (lv_room (Nat.le_of_ble_eq_true rfl)) dX13_tree_2 ⟨Nat.le_of_ble_eq_true rfl, Nat.le_of_ble_eq_true rfl⟩) (fun r cs1 H locs hP hW => ?_)
  rcases hP with ⟨F_m0, c1, rfl, rfl, E_m0⟩ | ⟨F_m0, c1, c2, rfl, rfl, E_m0⟩ | ⟨F_m0, c1, c2, rfl, rfl, E_m0⟩
  · have hW : pq_W D _ s.heap L f _ [(m0, .inr (13, F_m0))] H locs := hW
    refine lv_if_eq (tgt := 10) hx hb dX13_tree_5 (by decide) (fun c9 => absurd c9 (by decide)) (fun _ => ?_)
    refine lv_iconst (v := 0) hx hb dX13_tree_8 (by decide) ?_
    exact pq_iret hx hb hr hlocks rfl hW ⟨F_m0, 1, rfl, E_m0.one (i := 0) rfl, Or.inl ⟨rfl, (pz_X13_tree_1 n1 c1)⟩⟩ dX13_tree_9
  · have hW : pq_W D _ s.heap L f _ [(m0, .inr (13, F_m0))] H locs := hW
    refine lv_if_eq (tgt := 10) hx hb dX13_tree_5 (by decide) (fun _ => ?_) (fun c9 => absurd c9 (by decide))
    refine lv_aload_n hx hb dX13_tree_10 rfl (lv_at hl 0 rfl) ?_
    refine pq_callv hW [0] [] (by decide) rfl rfl (fun f9 hw9 hC9 => va_runV (C := RX13) (As := []) (rest := []) ⟨hx, hb, hml, hown, hts⟩ (c_X13_reads l D cy _ L f9 m0 F_m0 hC9 E_m0) (cwV 0 hts (pp_gV pp70 pp69 pp71 pp72 pp20) rfl rfl rfl pd_X13_reads ⟨Nat.le_of_ble_eq_true rfl, Nat.le_of_ble_eq_true rfl⟩) (pq_preV hG hw9 hC9 (j := 0) rfl rfl) rfl rfl hl.1 rfl (lv_room (Nat.le_of_ble_eq_true rfl)) dX13_tree_11 ⟨Nat.le_of_ble_eq_true rfl, Nat.le_of_ble_eq_true rfl⟩) (fun cs1 H locs hP hW => ?_)
    obtain ⟨F_m0, rfl, E_m0⟩ := hP
    have hW : pq_W D _ s.heap L f _ [(m0, .inr (13, F_m0))] H locs := hW
    refine lv_aload_n hx hb dX13_tree_14 rfl (lv_at hl 0 rfl) ?_
    refine lv_iconst (v := 0) hx hb dX13_tree_15 (by decide) ?_
    refine pq_put (own := RX13) (ci := 13) (C := RX13) (T := TX13) (N := 229) (kv' := [(0, .int 0), (1, .int 0), (2, .int 0), (3, .int 0), (4, .int 0), (5, .int 0), (6, .int (-1)), (16, .ref w10), (19, .ref w13), (20, .ref w14), (21, .ref w15), (22, .ref w16), (23, .ref w17), (24, .ref w18), (25, .ref w19), (42, .int 0), (59, .int 0), (64, .int 0), (65, .ref w56), (68, .int 0), (69, .int 0), (70, .int 0), (71, .int 0), (72, .int 0), (73, .int 0), (74, .int 0), (75, .long 0), (76, .int 0), (79, .int 0), (97, .ref w59), (99, .int 0), (100, .int 0), (132, .int 0), (136, .int 0), (179, .int 0), (180, .int 0), (181, .long 0), (186, .int 0), (188, .int 0), (190, .ref w115), (201, .int 0), (206, .int 0), (211, .int 0)]) hx hb hpp pi13 tyX13 tyX13_ok nmX13 rfl hown hG hW 0 rfl E_m0 73 (by decide) rfl rfl rfl rfl pp95 dX13_tree_16 (fun F_m0 H locs hW E_m0 => ?_)
    have hW : pq_W D _ s.heap L f _ [(m0, .inr (13, F_m0))] H locs := hW
    refine lv_aload_n hx hb dX13_tree_19 rfl (lv_at hl 0 rfl) ?_
    refine pq_callv hW [0] [] (by decide) rfl rfl (fun f9 hw9 hC9 => va_runV (C := RX13) (As := []) (rest := []) ⟨hx, hb, hml, hown, hts⟩ (c_X13_next l D cy _ L f9 m0 F_m0 hC9 E_m0) (cwV 0 hts (pp_gV pp102 pp101 pp103 pp104 pp20) rfl rfl rfl pd_X13_next ⟨Nat.le_of_ble_eq_true rfl, Nat.le_of_ble_eq_true rfl⟩) (pq_preV hG hw9 hC9 (j := 0) rfl rfl) rfl rfl hl.1 rfl (lv_room (Nat.le_of_ble_eq_true rfl)) dX13_tree_20 ⟨Nat.le_of_ble_eq_true rfl, Nat.le_of_ble_eq_true rfl⟩) (fun cs1 H locs hP hW => ?_)
    obtain ⟨F_m0, rfl, E_m0⟩ := hP
    have hW : pq_W D _ s.heap L f _ [(m0, .inr (13, F_m0))] H locs := hW
    refine lv_aload_n hx hb dX13_tree_23 rfl (lv_at hl 0 rfl) ?_
    refine lv_iconst (v := 0) hx hb dX13_tree_24 (by decide) ?_
    refine pq_put (own := RX13) (ci := 13) (C := RX13) (T := TX13) (N := 229) (kv' := [(0, .int 0), (1, .int 0), (2, .int 0), (3, .int 0), (4, .int 0), (5, .int 0), (6, .int (-1)), (16, .ref w10), (19, .ref w13), (20, .ref w14), (21, .ref w15), (22, .ref w16), (23, .ref w17), (24, .ref w18), (25, .ref w19), (42, .int 0), (59, .int 0), (64, .int 0), (65, .ref w56), (68, .int 0), (69, .int 0), (70, .int 0), (71, .int 0), (72, .int 0), (73, .int 0), (74, .int 0), (75, .long 0), (76, .int 0), (79, .int 0), (97, .ref w59), (99, .int 0), (100, .int 0), (132, .int 0), (136, .int 0), (179, .int 0), (180, .int 0), (181, .long 0), (186, .int 0), (188, .int 0), (190, .ref w115), (201, .int 0), (206, .int 0), (211, .int 0)]) hx hb hpp pi13 tyX13 tyX13_ok nmX13 rfl hown hG hW 0 rfl E_m0 188 (by decide) rfl rfl rfl rfl pp183 dX13_tree_25 (fun F_m0 H locs hW E_m0 => ?_)
    have hW : pq_W D _ s.heap L f _ [(m0, .inr (13, F_m0))] H locs := hW
    refine lv_aload_n hx hb dX13_tree_28 rfl (lv_at hl 0 rfl) ?_
    refine lv_iconst (v := (-1)) hx hb dX13_tree_29 (by decide) ?_
    refine pq_calli hW [0] [] (by decide) rfl rfl (fun f9 hw9 hC9 => va_runV (C := RX13) (As := [.int (-1)]) (rest := []) ⟨hx, hb, hml, hown, hts⟩ (c_X13_noTree l D cy _ L f9 m0 F_m0 (-1) hC9 E_m0) (cwV 1 hts (pp_gV pp185 pp184 pp186 pp187 pp20) rfl rfl rfl pd_X13_noTree ⟨Nat.le_of_ble_eq_true rfl, Nat.le_of_ble_eq_true rfl⟩) (pq_preV hG hw9 hC9 (j := 0) rfl rfl) rfl rfl hl.1 rfl (lv_room (Nat.le_of_ble_eq_true rfl)) dX13_tree_30 ⟨Nat.le_of_ble_eq_true rfl, Nat.le_of_ble_eq_true rfl⟩) (fun r cs1 H locs hP hW => ?_)
    obtain ⟨rfl, rfl⟩ := hP
    have hW : pq_W D _ s.heap L f _ [(m0, .inr (13, F_m0))] H locs := hW
    refine lv_if_ne (tgt := 43) hx hb dX13_tree_33 (by decide) (fun _ => ?_) (fun c9 => absurd c9 (by decide))
    refine lv_iconst (v := (-1)) hx hb dX13_tree_43 (by decide) ?_
    refine lv_aload_n hx hb dX13_tree_44 rfl (lv_at hl 0 rfl) ?_
    refine pq_get (own := RX13) (ci := 13) (C := RX13) (T := TX13) (N := 229) (k := 71) (v := .int 0) hx hb hpp pi13 rfl hown hG hW 0 rfl E_m0 22 rfl (by decide) pp100 dX13_tree_45 ?_
    refine lv_if_ne (tgt := 58) hx hb dX13_tree_48 (by decide) (fun c9 => absurd c9 (by decide)) (fun _ => ?_)
    refine lv_aload_n hx hb dX13_tree_51 rfl (lv_at hl 0 rfl) ?_
    refine pq_get (own := RX13) (ci := 13) (C := RX13) (T := TX13) (N := 229) (k := 69) (v := .int 0) hx hb hpp pi13 rfl hown hG hW 0 rfl E_m0 20 rfl (by decide) pp68 dX13_tree_52 ?_
    refine lv_goto (tgt := 62) hx hb dX13_tree_55 (by decide) ?_
    refine lv_isub hx hb dX13_tree_62 ?_
    refine pq_topi (y := (-1)) (by decide) ?_
    exact pq_iret hx hb hr hlocks rfl hW ⟨F_m0, 0, rfl, E_m0.one (i := 0) rfl, Or.inr ⟨rfl, (pz_X13_tree_2 n1 c1 c2), rfl⟩⟩ dX13_tree_63
  · have hW : pq_W D _ s.heap L f _ [(m0, .inr (13, F_m0))] H locs := hW
    refine lv_if_eq (tgt := 10) hx hb dX13_tree_5 (by decide) (fun c9 => absurd c9 (by decide)) (fun _ => ?_)
    refine lv_iconst (v := 0) hx hb dX13_tree_8 (by decide) ?_
    exact pq_iret hx hb hr hlocks rfl hW ⟨F_m0, 1, rfl, E_m0.one (i := 0) rfl, Or.inl ⟨rfl, (pz_X13_tree_3 n1 c1 c2)⟩⟩ dX13_tree_9
theorem pz_X13_takes_1 (n1 : Int32) (hz : ¬ n1 < 0) (hy : n1 < 8) : vp_in n1 8 := by
  refine vp_in_iff.mpr ?_
  have k0 : (0 : Int32).toInt = 0 := by decide
  have k8 : (8 : Int32).toInt = 8 := by decide
  simp only [Int32.lt_iff_toInt_lt, Int32.le_iff_toInt_le, ← Int32.toInt_inj] at hz hy
  omega
theorem pz_X13_takes_2 (n1 : Int32) (hz : ¬ n1 < 0) (hy : n1 < 8) : vp_in n1 8 := by
  refine vp_in_iff.mpr ?_
  have k0 : (0 : Int32).toInt = 0 := by decide
  have k8 : (8 : Int32).toInt = 8 := by decide
  simp only [Int32.lt_iff_toInt_lt, Int32.le_iff_toInt_le, ← Int32.toInt_inj] at hz hy
  omega
set_option maxHeartbeats 4000000 in
set_option maxRecDepth 100000 in
/-- TongueHouseModel.takes on a new object -/
theorem c_X13_takes (l : Launch) (D : va_G) (cy : Nat → ClassId) (sz : Nat) (L : List Nat) (f : Nat → va_E) {w10 w13 w14 w15 w16 w17 w18 w19 w56 w59 : Nat} (m0 w115 : Nat) (F_m0 : List Value) (n1 : Int32) (hz : ¬ n1 < 0) (hy : n1 < 8) (hC : pq_C L f [(m0, .inr (13, F_m0)), (w115, .inl (cy 1, 8, .inl (fun _ => 0)))]) (E_m0 : pq_E 229 F_m0 [(0, .int 0), (1, .int 0), (2, .int 0), (3, .int 0), (4, .int 0), (5, .int 0), (6, .int (-1)), (16, .ref w10), (19, .ref w13), (20, .ref w14), (21, .ref w15), (22, .ref w16), (23, .ref w17), (24, .ref w18), (25, .ref w19), (42, .int 0), (59, .int 0), (64, .int 0), (65, .ref w56), (68, .int 0), (69, .int 0), (70, .int 0), (71, .int 0), (72, .int 0), (73, .int 0), (74, .int 0), (75, .long 0), (76, .int 0), (79, .int 0), (97, .ref w59), (99, .int 0), (100, .int 0), (132, .int 0), (136, .int 0), (179, .int 0), (180, .int 0), (181, .long 0), (186, .int 0), (188, .int 0), (190, .ref w115), (201, .int 0), (206, .int 0), (211, .int 0)]) : Met l yX13_takes (Cond.code yX13_takes cX13_takes 3 (some .int) :: pp_ws) ({ frames := 0, cells := 0, slots := 0, locals := 0 }) (pw_Pc D cy [.ref m0, .int n1] sz L f) (pq_Qi D sz L f [m0, w115] (fun r cs1 => (∃ (F_m0 : List Value), r = 0 ∧ cs1 = [(m0, .inr (13, F_m0)), (w115, .inl (cy 1, 8, .inl (fun _ => 0)))] ∧ pq_E 229 F_m0 [(0, .int 0), (1, .int 0), (2, .int 0), (3, .int 0), (4, .int 0), (5, .int 0), (6, .int (-1)), (16, .ref w10), (19, .ref w13), (20, .ref w14), (21, .ref w15), (22, .ref w16), (23, .ref w17), (24, .ref w18), (25, .ref w19), (42, .int 0), (59, .int 0), (64, .int 0), (65, .ref w56), (68, .int 0), (69, .int 0), (70, .int 0), (71, .int 0), (72, .int 0), (73, .int 0), (74, .int 0), (75, .long 0), (76, .int 0), (79, .int 0), (97, .ref w59), (99, .int 0), (100, .int 0), (132, .int 0), (136, .int 0), (179, .int 0), (180, .int 0), (181, .long 0), (186, .int 0), (188, .int 0), (190, .ref w115), (201, .int 0), (206, .int 0), (211, .int 0)]))) 0 0 (pw_A L f sz) := by
  refine Met.ofW (cc := cX13_takes) (maxL := 3) (ret := (some .int)) (by decide) rfl ?_
  intro p e s m args below meth c s₁ B hml hv
  obtain ⟨rfl, hsz, hG, hP, hD0⟩ := hv
  have hx := B.exec
  have hb := B.bytes
  have hr := B.returns
  have hts := atoms_spec (ws := Cond.code yX13_takes cX13_takes 3 (some .int) :: pp_ws) B.pre
  have hpp := fun (w : Cond) (h : w ∈ pp_ws) => hts w (List.mem_cons_of_mem _ h)
  have hown : s.vm.findClass RX13 = some m.cls := findClass_of_methodNamed B.named
  have hlocks := B.notSynchronized
  have hw := pw_start (cy := cy) hsz hP hD0
  have hW := pq_start (as := [m0, w115]) hw hC rfl
  have hl := lv_entry ([.ref m0, .int n1]) (n := 3) (Nat.le_of_ble_eq_true rfl)
  rw [lg_entry_eq]
  generalize (lg_sl ([.ref m0, .int n1]) ++ List.replicate (3 - (lg_sl ([.ref m0, .int n1])).length) Slot.unset).toArray = ls at hl ⊢
  have hl : lv_has ls 3 [(0, .ref m0), (1, .int n1)] := hl
  refine lv_iconst (v := 0) hx hb dX13_takes_0 (by decide) ?_
  refine lv_istore_n (lv' := [(2, .int 0), (0, .ref m0), (1, .int n1)]) hx hb dX13_takes_1 rfl hl (by decide) rfl (fun ls hl => ?_)
  refine lv_iload_n hx hb dX13_takes_2 rfl (lv_at hl 0 rfl) ?_
  refine lv_aload_n hx hb dX13_takes_3 rfl (lv_at hl 1 rfl) ?_
  refine pq_get (own := RX13) (ci := 13) (C := RX13) (T := TX13) (N := 229) (k := 190) (v := .ref w115) hx hb hpp pi13 rfl hown hG hW 0 rfl E_m0 39 rfl (by decide) pp189 dX13_takes_4 ?_
  refine lv_iload_n hx hb dX13_takes_7 rfl (lv_at hl 2 rfl) ?_
  refine pq_iald (v := 0) hx hb hG hW 1 rfl (pz_X13_takes_1 n1 hz hy) rfl dX13_takes_8 ?_
  refine lv_icmp_ge (tgt := 35) hx hb dX13_takes_9 (by decide) (fun _ => ?_) (fun c9 => absurd c9 (by decide))
  refine lv_aload_n hx hb dX13_takes_35 rfl (lv_at hl 1 rfl) ?_
  refine lv_aload_n hx hb dX13_takes_36 rfl (lv_at hl 1 rfl) ?_
  refine pq_get (own := RX13) (ci := 13) (C := RX13) (T := TX13) (N := 229) (k := 190) (v := .ref w115) hx hb hpp pi13 rfl hown hG hW 0 rfl E_m0 39 rfl (by decide) pp189 dX13_takes_37 ?_
  refine lv_iload_n hx hb dX13_takes_40 rfl (lv_at hl 2 rfl) ?_
  refine pq_iald (v := 0) hx hb hG hW 1 rfl (pz_X13_takes_2 n1 hz hy) rfl dX13_takes_41 ?_
  refine pq_put (own := RX13) (ci := 13) (C := RX13) (T := TX13) (N := 229) (kv' := [(0, .int 0), (1, .int 0), (2, .int 0), (3, .int 0), (4, .int 0), (5, .int 0), (6, .int (-1)), (16, .ref w10), (19, .ref w13), (20, .ref w14), (21, .ref w15), (22, .ref w16), (23, .ref w17), (24, .ref w18), (25, .ref w19), (42, .int 0), (59, .int 0), (64, .int 0), (65, .ref w56), (68, .int 0), (69, .int 0), (70, .int 0), (71, .int 0), (72, .int 0), (73, .int 0), (74, .int 0), (75, .long 0), (76, .int 0), (79, .int 0), (97, .ref w59), (99, .int 0), (100, .int 0), (132, .int 0), (136, .int 0), (179, .int 0), (180, .int 0), (181, .long 0), (186, .int 0), (188, .int 0), (190, .ref w115), (201, .int 0), (206, .int 0), (211, .int 0)]) hx hb hpp pi13 tyX13 tyX13_ok nmX13 rfl hown hG hW 0 rfl E_m0 188 (by decide) rfl rfl rfl rfl pp183 dX13_takes_42 (fun F_m0 H locs hW E_m0 => ?_)
  have hW : pq_W D _ s.heap L f _ [(m0, .inr (13, F_m0)), (w115, .inl (cy 1, 8, .inl (fun _ => 0)))] H locs := hW
  refine lv_aload_n hx hb dX13_takes_45 rfl (lv_at hl 1 rfl) ?_
  refine pq_get (own := RX13) (ci := 13) (C := RX13) (T := TX13) (N := 229) (k := 188) (v := .int 0) hx hb hpp pi13 rfl hown hG hW 0 rfl E_m0 38 rfl (by decide) pp183 dX13_takes_46 ?_
  exact pq_iret hx hb hr hlocks rfl hW ⟨_, rfl, rfl, E_m0⟩ dX13_takes_49
theorem pz_X13_show_1 (n1 : Int32) (c1 : n1 < 0) : n1 < 0 ∨ 7 < n1 := by
  have k0 : (0 : Int32).toInt = 0 := by decide
  have k7 : (7 : Int32).toInt = 7 := by decide
  simp only [Int32.lt_iff_toInt_lt, Int32.le_iff_toInt_le, ← Int32.toInt_inj] at c1 ⊢
  omega
theorem pz_X13_show_2 (n1 : Int32) (c1 : ¬ n1 < 0) (c2 : n1 ≤ 7) : ¬ n1 < 0 := by
  have k0 : (0 : Int32).toInt = 0 := by decide
  have k7 : (7 : Int32).toInt = 7 := by decide
  simp only [Int32.lt_iff_toInt_lt, Int32.le_iff_toInt_le, ← Int32.toInt_inj] at c1 c2 ⊢
  omega
theorem pz_X13_show_3 (n1 : Int32) (c1 : ¬ n1 < 0) (c2 : n1 ≤ 7) : n1 < 8 := by
  have k0 : (0 : Int32).toInt = 0 := by decide
  have k7 : (7 : Int32).toInt = 7 := by decide
  have k8 : (8 : Int32).toInt = 8 := by decide
  simp only [Int32.lt_iff_toInt_lt, Int32.le_iff_toInt_le, ← Int32.toInt_inj] at c1 c2 ⊢
  omega
theorem pz_X13_show_4 (n1 : Int32) (c1 : ¬ n1 < 0) (c2 : n1 ≤ 7) : ¬ (n1 < 0 ∨ 7 < n1) := by
  have k0 : (0 : Int32).toInt = 0 := by decide
  have k7 : (7 : Int32).toInt = 7 := by decide
  simp only [Int32.lt_iff_toInt_lt, Int32.le_iff_toInt_le, ← Int32.toInt_inj] at c1 c2 ⊢
  omega
theorem pz_X13_show_5 (n1 : Int32) (c1 : ¬ n1 < 0) (c2 : ¬ n1 ≤ 7) : n1 < 0 ∨ 7 < n1 := by
  have k0 : (0 : Int32).toInt = 0 := by decide
  have k7 : (7 : Int32).toInt = 7 := by decide
  simp only [Int32.lt_iff_toInt_lt, Int32.le_iff_toInt_le, ← Int32.toInt_inj] at c1 c2 ⊢
  omega
set_option maxHeartbeats 4000000 in
set_option maxRecDepth 100000 in
/-- TongueHouseModel.show on a new object -/
theorem c_X13_show (l : Launch) (D : va_G) (cy : Nat → ClassId) (sz : Nat) (L : List Nat) (f : Nat → va_E) {w10 w13 w14 w15 w16 w17 w18 w19 w56 w59 : Nat} (m0 w115 : Nat) (F_m0 : List Value) (n1 : Int32) (hC : pq_C L f [(m0, .inr (13, F_m0)), (w115, .inl (cy 1, 8, .inl (fun _ => 0)))]) (E_m0 : pq_E 229 F_m0 [(0, .int 0), (1, .int 0), (2, .int 0), (3, .int 0), (4, .int 0), (5, .int 0), (6, .int (-1)), (16, .ref w10), (19, .ref w13), (20, .ref w14), (21, .ref w15), (22, .ref w16), (23, .ref w17), (24, .ref w18), (25, .ref w19), (42, .int 0), (59, .int 0), (64, .int 0), (65, .ref w56), (68, .int 0), (69, .int 0), (70, .int 0), (71, .int 0), (72, .int 0), (73, .int 0), (74, .int 0), (75, .long 0), (76, .int 0), (79, .int 0), (97, .ref w59), (99, .int 0), (100, .int 0), (132, .int 0), (136, .int 0), (179, .int 0), (180, .int 0), (181, .long 0), (186, .int 0), (188, .int 0), (190, .ref w115), (201, .int 0), (206, .int 0), (211, .int 0)]) : Met l yX13_show (Cond.code yX13_show cX13_show 2 (some .int) :: pp_ws) ({ frames := 1, cells := 0, slots := 0, locals := 22 }) (pw_Pc D cy [.ref m0, .int n1] sz L f) (pq_Qi D sz L f [m0, w115] (fun r cs1 => ∃ (G : List Value) (t : Int32), cs1 = [(m0, .inr (13, G))] ∧ pq_E 229 G [(0, .int t)] ∧ ((t = 1 ∧ (n1 < 0 ∨ 7 < n1)) ∨ (t = 0 ∧ ¬ (n1 < 0 ∨ 7 < n1) ∧ r = (-1))))) 0 0 (pw_A L f sz) := by
  refine Met.ofW (cc := cX13_show) (maxL := 2) (ret := (some .int)) (by decide) rfl ?_
  intro p e s m args below meth c s₁ B hml hv
  obtain ⟨rfl, hsz, hG, hP, hD0⟩ := hv
  have hx := B.exec
  have hb := B.bytes
  have hr := B.returns
  have hts := atoms_spec (ws := Cond.code yX13_show cX13_show 2 (some .int) :: pp_ws) B.pre
  have hpp := fun (w : Cond) (h : w ∈ pp_ws) => hts w (List.mem_cons_of_mem _ h)
  have hown : s.vm.findClass RX13 = some m.cls := findClass_of_methodNamed B.named
  have hlocks := B.notSynchronized
  have hw := pw_start (cy := cy) hsz hP hD0
  have hW := pq_start (as := [m0, w115]) hw hC rfl
  have hl := lv_entry ([.ref m0, .int n1]) (n := 2) (Nat.le_of_ble_eq_true rfl)
  rw [lg_entry_eq]
  generalize (lg_sl ([.ref m0, .int n1]) ++ List.replicate (2 - (lg_sl ([.ref m0, .int n1])).length) Slot.unset).toArray = ls at hl ⊢
  have hl : lv_has ls 2 [(0, .ref m0), (1, .int n1)] := hl
  refine lv_aload_n hx hb dX13_show_0 rfl (lv_at hl 0 rfl) ?_
  refine lv_iload_n hx hb dX13_show_1 rfl (lv_at hl 1 rfl) ?_
  refine pq_calli hW [0] [1] (by decide) rfl rfl (fun f9 hw9 hC9 => va_runV (C := RX13) (As := [.int n1]) (rest := []) ⟨hx, hb, hml, hown, hts⟩ (c_X13_noPlace l D cy _ L f9 m0 F_m0 n1 hC9 E_m0) (cwV 1 hts (pp_gV pp174 pp173 pp175 pp176 pp20) rfl rfl rfl pd_X13_noPlace ⟨Nat.le_of_ble_eq_true rfl, Nat.le_of_ble_eq_true rfl⟩) (pq_preV hG hw9 hC9 (j := 0) rfl rfl) rfl rfl hl.1 rfl (lv_room (Nat.le_of_ble_eq_true rfl)) dX13_show_2 ⟨Nat.le_of_ble_eq_true rfl, Nat.le_of_ble_eq_true rfl⟩) (fun r cs1 H locs hP hW => ?_)
  rcases hP with ⟨F_m0, c1, rfl, rfl, E_m0⟩ | ⟨F_m0, c1, c2, rfl, rfl, E_m0⟩ | ⟨F_m0, c1, c2, rfl, rfl, E_m0⟩
  · have hW : pq_W D _ s.heap L f _ [(m0, .inr (13, F_m0)), (w115, .inl (cy 1, 8, .inl (fun _ => 0)))] H locs := hW
    refine lv_if_eq (tgt := 10) hx hb dX13_show_5 (by decide) (fun c9 => absurd c9 (by decide)) (fun _ => ?_)
    refine lv_iconst (v := 0) hx hb dX13_show_8 (by decide) ?_
    exact pq_iret hx hb hr hlocks rfl (hW.pick (cs2 := [(m0, .inr (13, F_m0))]) [0] (by decide) rfl) ⟨F_m0, 1, rfl, E_m0.one (i := 0) rfl, Or.inl ⟨rfl, (pz_X13_show_1 n1 c1)⟩⟩ dX13_show_9
  · have hW : pq_W D _ s.heap L f _ [(m0, .inr (13, F_m0)), (w115, .inl (cy 1, 8, .inl (fun _ => 0)))] H locs := hW
    refine lv_if_eq (tgt := 10) hx hb dX13_show_5 (by decide) (fun _ => ?_) (fun c9 => absurd c9 (by decide))
    refine lv_aload_n hx hb dX13_show_10 rfl (lv_at hl 0 rfl) ?_
    refine lv_iconst (v := 0) hx hb dX13_show_11 (by decide) ?_
    refine pq_put (own := RX13) (ci := 13) (C := RX13) (T := TX13) (N := 229) (kv' := [(0, .int 0), (1, .int 0), (2, .int 0), (3, .int 0), (4, .int 0), (5, .int 0), (6, .int (-1)), (16, .ref w10), (19, .ref w13), (20, .ref w14), (21, .ref w15), (22, .ref w16), (23, .ref w17), (24, .ref w18), (25, .ref w19), (42, .int 0), (59, .int 0), (64, .int 0), (65, .ref w56), (68, .int 0), (69, .int 0), (70, .int 0), (71, .int 0), (72, .int 0), (73, .int 0), (74, .int 0), (75, .long 0), (76, .int 0), (79, .int 0), (97, .ref w59), (99, .int 0), (100, .int 0), (132, .int 0), (136, .int 0), (179, .int 0), (180, .int 0), (181, .long 0), (186, .int 0), (188, .int 0), (190, .ref w115), (201, .int 0), (206, .int 0), (211, .int 0)]) hx hb hpp pi13 tyX13 tyX13_ok nmX13 rfl hown hG hW 0 rfl E_m0 70 (by decide) rfl rfl rfl rfl pp109 dX13_show_12 (fun F_m0 H locs hW E_m0 => ?_)
    have hW : pq_W D _ s.heap L f _ [(m0, .inr (13, F_m0)), (w115, .inl (cy 1, 8, .inl (fun _ => 0)))] H locs := hW
    refine lv_aload_n hx hb dX13_show_15 rfl (lv_at hl 0 rfl) ?_
    refine lv_iload_n hx hb dX13_show_16 rfl (lv_at hl 1 rfl) ?_
    refine pq_calli hW [0, 1] [] (by decide) rfl rfl (fun f9 hw9 hC9 => va_runV (C := RX13) (As := [.int n1]) (rest := []) ⟨hx, hb, hml, hown, hts⟩ (c_X13_takes l D cy _ L f9 m0 w115 F_m0 n1 (pz_X13_show_2 n1 c1 c2) (pz_X13_show_3 n1 c1 c2) hC9 E_m0) (cwV 1 hts (pp_gV pp191 pp190 pp192 pp193 pp20) rfl rfl rfl pd_X13_takes ⟨Nat.le_of_ble_eq_true rfl, Nat.le_of_ble_eq_true rfl⟩) (pq_preV hG hw9 hC9 (j := 0) rfl rfl) rfl rfl hl.1 rfl (lv_room (Nat.le_of_ble_eq_true rfl)) dX13_show_17 ⟨Nat.le_of_ble_eq_true rfl, Nat.le_of_ble_eq_true rfl⟩) (fun r cs1 H locs hP hW => ?_)
    obtain ⟨F_m0, rfl, rfl, E_m0⟩ := hP
    have hW : pq_W D _ s.heap L f _ [(m0, .inr (13, F_m0)), (w115, .inl (cy 1, 8, .inl (fun _ => 0)))] H locs := hW
    refine lv_if_ne (tgt := 25) hx hb dX13_show_20 (by decide) (fun c9 => absurd c9 (by decide)) (fun _ => ?_)
    refine lv_iconst (v := (-1)) hx hb dX13_show_23 (by decide) ?_
    exact pq_iret hx hb hr hlocks rfl (hW.pick (cs2 := [(m0, .inr (13, F_m0))]) [0] (by decide) rfl) ⟨F_m0, 0, rfl, E_m0.one (i := 0) rfl, Or.inr ⟨rfl, (pz_X13_show_4 n1 c1 c2), rfl⟩⟩ dX13_show_24
  · have hW : pq_W D _ s.heap L f _ [(m0, .inr (13, F_m0)), (w115, .inl (cy 1, 8, .inl (fun _ => 0)))] H locs := hW
    refine lv_if_eq (tgt := 10) hx hb dX13_show_5 (by decide) (fun c9 => absurd c9 (by decide)) (fun _ => ?_)
    refine lv_iconst (v := 0) hx hb dX13_show_8 (by decide) ?_
    exact pq_iret hx hb hr hlocks rfl (hW.pick (cs2 := [(m0, .inr (13, F_m0))]) [0] (by decide) rfl) ⟨F_m0, 1, rfl, E_m0.one (i := 0) rfl, Or.inl ⟨rfl, (pz_X13_show_5 n1 c1 c2)⟩⟩ dX13_show_9
theorem pz_X13_same_1 (n1 n2 : Int32) (c1 : n1 < 0) : n1 < 0 ∨ 7 < n1 ∨ n2 < 0 ∨ 7 < n2 := by
  have k0 : (0 : Int32).toInt = 0 := by decide
  have k7 : (7 : Int32).toInt = 7 := by decide
  simp only [Int32.lt_iff_toInt_lt, Int32.le_iff_toInt_le, ← Int32.toInt_inj] at c1 ⊢
  omega
theorem pz_X13_same_2 (n1 n2 : Int32) (c1 : ¬ n1 < 0) (c2 : 7 < n1) : n1 < 0 ∨ 7 < n1 ∨ n2 < 0 ∨ 7 < n2 := by
  have k0 : (0 : Int32).toInt = 0 := by decide
  have k7 : (7 : Int32).toInt = 7 := by decide
  simp only [Int32.lt_iff_toInt_lt, Int32.le_iff_toInt_le, ← Int32.toInt_inj] at c1 c2 ⊢
  omega
theorem pz_X13_same_3 (n1 n2 : Int32) (c1 : ¬ n1 < 0) (c2 : ¬ 7 < n1) (c3 : n2 < 0) : n1 < 0 ∨ 7 < n1 ∨ n2 < 0 ∨ 7 < n2 := by
  have k0 : (0 : Int32).toInt = 0 := by decide
  have k7 : (7 : Int32).toInt = 7 := by decide
  simp only [Int32.lt_iff_toInt_lt, Int32.le_iff_toInt_le, ← Int32.toInt_inj] at c1 c2 c3 ⊢
  omega
theorem pz_X13_same_4 (n1 n2 : Int32) (c1 : ¬ n1 < 0) (c2 : ¬ 7 < n1) (c3 : ¬ n2 < 0) (c4 : n2 ≤ 7) : vp_in n1 8 := by
  refine vp_in_iff.mpr ?_
  have k0 : (0 : Int32).toInt = 0 := by decide
  have k7 : (7 : Int32).toInt = 7 := by decide
  have k8 : (8 : Int32).toInt = 8 := by decide
  simp only [Int32.lt_iff_toInt_lt, Int32.le_iff_toInt_le, ← Int32.toInt_inj] at c1 c2 c3 c4
  omega
theorem pz_X13_same_5 (n1 n2 : Int32) (c1 : ¬ n1 < 0) (c2 : ¬ 7 < n1) (c3 : ¬ n2 < 0) (c4 : n2 ≤ 7) : vp_in n2 8 := by
  refine vp_in_iff.mpr ?_
  have k0 : (0 : Int32).toInt = 0 := by decide
  have k7 : (7 : Int32).toInt = 7 := by decide
  have k8 : (8 : Int32).toInt = 8 := by decide
  simp only [Int32.lt_iff_toInt_lt, Int32.le_iff_toInt_le, ← Int32.toInt_inj] at c1 c2 c3 c4
  omega
theorem pz_X13_same_6 (n1 n2 : Int32) (c1 : ¬ n1 < 0) (c2 : ¬ 7 < n1) (c3 : ¬ n2 < 0) (c4 : n2 ≤ 7) : vp_in n1 8 := by
  refine vp_in_iff.mpr ?_
  have k0 : (0 : Int32).toInt = 0 := by decide
  have k7 : (7 : Int32).toInt = 7 := by decide
  have k8 : (8 : Int32).toInt = 8 := by decide
  simp only [Int32.lt_iff_toInt_lt, Int32.le_iff_toInt_le, ← Int32.toInt_inj] at c1 c2 c3 c4
  omega
theorem pz_X13_same_7 (n1 n2 : Int32) (c1 : ¬ n1 < 0) (c2 : ¬ 7 < n1) (c3 : ¬ n2 < 0) (c4 : n2 ≤ 7) : ¬ (n1 < 0 ∨ 7 < n1 ∨ n2 < 0 ∨ 7 < n2) := by
  have k0 : (0 : Int32).toInt = 0 := by decide
  have k7 : (7 : Int32).toInt = 7 := by decide
  simp only [Int32.lt_iff_toInt_lt, Int32.le_iff_toInt_le, ← Int32.toInt_inj] at c1 c2 c3 c4 ⊢
  omega
theorem pz_X13_same_8 (n1 n2 : Int32) (c1 : ¬ n1 < 0) (c2 : ¬ 7 < n1) (c3 : ¬ n2 < 0) (c4 : ¬ n2 ≤ 7) : n1 < 0 ∨ 7 < n1 ∨ n2 < 0 ∨ 7 < n2 := by
  have k0 : (0 : Int32).toInt = 0 := by decide
  have k7 : (7 : Int32).toInt = 7 := by decide
  simp only [Int32.lt_iff_toInt_lt, Int32.le_iff_toInt_le, ← Int32.toInt_inj] at c1 c2 c3 c4 ⊢
  omega
set_option maxHeartbeats 4000000 in
set_option maxRecDepth 100000 in
/-- TongueHouseModel.same on a new object -/
theorem c_X13_same (l : Launch) (D : va_G) (cy : Nat → ClassId) (sz : Nat) (L : List Nat) (f : Nat → va_E) {w10 w13 w14 w15 w16 w17 w18 w19 w56 w59 : Nat} (m0 w115 : Nat) (F_m0 : List Value) (n1 : Int32) (n2 : Int32) (hC : pq_C L f [(m0, .inr (13, F_m0)), (w115, .inl (cy 1, 8, .inl (fun _ => 0)))]) (E_m0 : pq_E 229 F_m0 [(0, .int 0), (1, .int 0), (2, .int 0), (3, .int 0), (4, .int 0), (5, .int 0), (6, .int (-1)), (16, .ref w10), (19, .ref w13), (20, .ref w14), (21, .ref w15), (22, .ref w16), (23, .ref w17), (24, .ref w18), (25, .ref w19), (42, .int 0), (59, .int 0), (64, .int 0), (65, .ref w56), (68, .int 0), (69, .int 0), (70, .int 0), (71, .int 0), (72, .int 0), (73, .int 0), (74, .int 0), (75, .long 0), (76, .int 0), (79, .int 0), (97, .ref w59), (99, .int 0), (100, .int 0), (132, .int 0), (136, .int 0), (179, .int 0), (180, .int 0), (181, .long 0), (186, .int 0), (188, .int 0), (190, .ref w115), (201, .int 0), (206, .int 0), (211, .int 0)]) : Met l yX13_same (Cond.code yX13_same cX13_same 4 (some .boolean) :: pp_ws) ({ frames := 0, cells := 0, slots := 0, locals := 0 }) (pw_Pc D cy [.ref m0, .int n1, .int n2] sz L f) (pq_Qi D sz L f [m0, w115] (fun r cs1 => ∃ (G : List Value) (t : Int32), cs1 = [(m0, .inr (13, G))] ∧ pq_E 229 G [(0, .int t)] ∧ ((t = 1 ∧ (n1 < 0 ∨ 7 < n1 ∨ n2 < 0 ∨ 7 < n2)) ∨ (t = 0 ∧ ¬ (n1 < 0 ∨ 7 < n1 ∨ n2 < 0 ∨ 7 < n2) ∧ r = 1)))) 0 0 (pw_A L f sz) := by
  refine Met.ofW (cc := cX13_same) (maxL := 4) (ret := (some .boolean)) (by decide) rfl ?_
  intro p e s m args below meth c s₁ B hml hv
  obtain ⟨rfl, hsz, hG, hP, hD0⟩ := hv
  have hx := B.exec
  have hb := B.bytes
  have hr := B.returns
  have hts := atoms_spec (ws := Cond.code yX13_same cX13_same 4 (some .boolean) :: pp_ws) B.pre
  have hpp := fun (w : Cond) (h : w ∈ pp_ws) => hts w (List.mem_cons_of_mem _ h)
  have hown : s.vm.findClass RX13 = some m.cls := findClass_of_methodNamed B.named
  have hlocks := B.notSynchronized
  have hw := pw_start (cy := cy) hsz hP hD0
  have hW := pq_start (as := [m0, w115]) hw hC rfl
  have hl := lv_entry ([.ref m0, .int n1, .int n2]) (n := 4) (Nat.le_of_ble_eq_true rfl)
  rw [lg_entry_eq]
  generalize (lg_sl ([.ref m0, .int n1, .int n2]) ++ List.replicate (4 - (lg_sl ([.ref m0, .int n1, .int n2])).length) Slot.unset).toArray = ls at hl ⊢
  have hl : lv_has ls 4 [(0, .ref m0), (1, .int n1), (2, .int n2)] := hl
  refine lv_aload_n hx hb dX13_same_0 rfl (lv_at hl 0 rfl) ?_
  refine lv_iload_n hx hb dX13_same_1 rfl (lv_at hl 1 rfl) ?_
  refine lv_if_lt (tgt := 21) hx hb dX13_same_2 (by decide) (fun c1 => ?_) (fun c1 => ?_)
  · refine lv_iconst (v := 1) hx hb dX13_same_21 (by decide) ?_
    refine lv_goto (tgt := 26) hx hb dX13_same_22 (by decide) ?_
    refine pq_put (own := RX13) (ci := 13) (C := RX13) (T := TX13) (N := 229) (kv' := [(0, .int 1), (1, .int 0), (2, .int 0), (3, .int 0), (4, .int 0), (5, .int 0), (6, .int (-1)), (16, .ref w10), (19, .ref w13), (20, .ref w14), (21, .ref w15), (22, .ref w16), (23, .ref w17), (24, .ref w18), (25, .ref w19), (42, .int 0), (59, .int 0), (64, .int 0), (65, .ref w56), (68, .int 0), (69, .int 0), (70, .int 0), (71, .int 0), (72, .int 0), (73, .int 0), (74, .int 0), (75, .long 0), (76, .int 0), (79, .int 0), (97, .ref w59), (99, .int 0), (100, .int 0), (132, .int 0), (136, .int 0), (179, .int 0), (180, .int 0), (181, .long 0), (186, .int 0), (188, .int 0), (190, .ref w115), (201, .int 0), (206, .int 0), (211, .int 0)]) hx hb hpp pi13 tyX13 tyX13_ok nmX13 rfl hown hG hW 0 rfl E_m0 0 (by decide) rfl rfl rfl rfl pp13 dX13_same_26 (fun F_m0 H locs hW E_m0 => ?_)
    have hW : pq_W D _ s.heap L f _ [(m0, .inr (13, F_m0)), (w115, .inl (cy 1, 8, .inl (fun _ => 0)))] H locs := hW
    refine lv_aload_n hx hb dX13_same_29 rfl (lv_at hl 0 rfl) ?_
    refine pq_get (own := RX13) (ci := 13) (C := RX13) (T := TX13) (N := 229) (k := 0) (v := .int 1) hx hb hpp pi13 rfl hown hG hW 0 rfl E_m0 0 rfl (by decide) pp13 dX13_same_30 ?_
    refine lv_if_ne (tgt := 51) hx hb dX13_same_33 (by decide) (fun _ => ?_) (fun c9 => absurd c9 (by decide))
    refine lv_iconst (v := 0) hx hb dX13_same_51 (by decide) ?_
    exact pq_iret hx hb hr hlocks rfl (hW.pick (cs2 := [(m0, .inr (13, F_m0))]) [0] (by decide) rfl) ⟨F_m0, 1, rfl, E_m0.one (i := 0) rfl, Or.inl ⟨rfl, (pz_X13_same_1 n1 n2 c1)⟩⟩ dX13_same_52
  · refine lv_iload_n hx hb dX13_same_5 rfl (lv_at hl 1 rfl) ?_
    refine lv_bipush (v := 7) hx hb dX13_same_6 (by decide) ?_
    refine lv_icmp_gt (tgt := 21) hx hb dX13_same_8 (by decide) (fun c2 => ?_) (fun c2 => ?_)
    · refine lv_iconst (v := 1) hx hb dX13_same_21 (by decide) ?_
      refine lv_goto (tgt := 26) hx hb dX13_same_22 (by decide) ?_
      refine pq_put (own := RX13) (ci := 13) (C := RX13) (T := TX13) (N := 229) (kv' := [(0, .int 1), (1, .int 0), (2, .int 0), (3, .int 0), (4, .int 0), (5, .int 0), (6, .int (-1)), (16, .ref w10), (19, .ref w13), (20, .ref w14), (21, .ref w15), (22, .ref w16), (23, .ref w17), (24, .ref w18), (25, .ref w19), (42, .int 0), (59, .int 0), (64, .int 0), (65, .ref w56), (68, .int 0), (69, .int 0), (70, .int 0), (71, .int 0), (72, .int 0), (73, .int 0), (74, .int 0), (75, .long 0), (76, .int 0), (79, .int 0), (97, .ref w59), (99, .int 0), (100, .int 0), (132, .int 0), (136, .int 0), (179, .int 0), (180, .int 0), (181, .long 0), (186, .int 0), (188, .int 0), (190, .ref w115), (201, .int 0), (206, .int 0), (211, .int 0)]) hx hb hpp pi13 tyX13 tyX13_ok nmX13 rfl hown hG hW 0 rfl E_m0 0 (by decide) rfl rfl rfl rfl pp13 dX13_same_26 (fun F_m0 H locs hW E_m0 => ?_)
      have hW : pq_W D _ s.heap L f _ [(m0, .inr (13, F_m0)), (w115, .inl (cy 1, 8, .inl (fun _ => 0)))] H locs := hW
      refine lv_aload_n hx hb dX13_same_29 rfl (lv_at hl 0 rfl) ?_
      refine pq_get (own := RX13) (ci := 13) (C := RX13) (T := TX13) (N := 229) (k := 0) (v := .int 1) hx hb hpp pi13 rfl hown hG hW 0 rfl E_m0 0 rfl (by decide) pp13 dX13_same_30 ?_
      refine lv_if_ne (tgt := 51) hx hb dX13_same_33 (by decide) (fun _ => ?_) (fun c9 => absurd c9 (by decide))
      refine lv_iconst (v := 0) hx hb dX13_same_51 (by decide) ?_
      exact pq_iret hx hb hr hlocks rfl (hW.pick (cs2 := [(m0, .inr (13, F_m0))]) [0] (by decide) rfl) ⟨F_m0, 1, rfl, E_m0.one (i := 0) rfl, Or.inl ⟨rfl, (pz_X13_same_2 n1 n2 c1 c2)⟩⟩ dX13_same_52
    · refine lv_iload_n hx hb dX13_same_11 rfl (lv_at hl 2 rfl) ?_
      refine lv_if_lt (tgt := 21) hx hb dX13_same_12 (by decide) (fun c3 => ?_) (fun c3 => ?_)
      · refine lv_iconst (v := 1) hx hb dX13_same_21 (by decide) ?_
        refine lv_goto (tgt := 26) hx hb dX13_same_22 (by decide) ?_
        refine pq_put (own := RX13) (ci := 13) (C := RX13) (T := TX13) (N := 229) (kv' := [(0, .int 1), (1, .int 0), (2, .int 0), (3, .int 0), (4, .int 0), (5, .int 0), (6, .int (-1)), (16, .ref w10), (19, .ref w13), (20, .ref w14), (21, .ref w15), (22, .ref w16), (23, .ref w17), (24, .ref w18), (25, .ref w19), (42, .int 0), (59, .int 0), (64, .int 0), (65, .ref w56), (68, .int 0), (69, .int 0), (70, .int 0), (71, .int 0), (72, .int 0), (73, .int 0), (74, .int 0), (75, .long 0), (76, .int 0), (79, .int 0), (97, .ref w59), (99, .int 0), (100, .int 0), (132, .int 0), (136, .int 0), (179, .int 0), (180, .int 0), (181, .long 0), (186, .int 0), (188, .int 0), (190, .ref w115), (201, .int 0), (206, .int 0), (211, .int 0)]) hx hb hpp pi13 tyX13 tyX13_ok nmX13 rfl hown hG hW 0 rfl E_m0 0 (by decide) rfl rfl rfl rfl pp13 dX13_same_26 (fun F_m0 H locs hW E_m0 => ?_)
        have hW : pq_W D _ s.heap L f _ [(m0, .inr (13, F_m0)), (w115, .inl (cy 1, 8, .inl (fun _ => 0)))] H locs := hW
        refine lv_aload_n hx hb dX13_same_29 rfl (lv_at hl 0 rfl) ?_
        refine pq_get (own := RX13) (ci := 13) (C := RX13) (T := TX13) (N := 229) (k := 0) (v := .int 1) hx hb hpp pi13 rfl hown hG hW 0 rfl E_m0 0 rfl (by decide) pp13 dX13_same_30 ?_
        refine lv_if_ne (tgt := 51) hx hb dX13_same_33 (by decide) (fun _ => ?_) (fun c9 => absurd c9 (by decide))
        refine lv_iconst (v := 0) hx hb dX13_same_51 (by decide) ?_
        exact pq_iret hx hb hr hlocks rfl (hW.pick (cs2 := [(m0, .inr (13, F_m0))]) [0] (by decide) rfl) ⟨F_m0, 1, rfl, E_m0.one (i := 0) rfl, Or.inl ⟨rfl, (pz_X13_same_3 n1 n2 c1 c2 c3)⟩⟩ dX13_same_52
      · refine lv_iload_n hx hb dX13_same_15 rfl (lv_at hl 2 rfl) ?_
        refine lv_bipush (v := 7) hx hb dX13_same_16 (by decide) ?_
        refine lv_icmp_le (tgt := 25) hx hb dX13_same_18 (by decide) (fun c4 => ?_) (fun c4 => ?_)
        · refine lv_iconst (v := 0) hx hb dX13_same_25 (by decide) ?_
          refine pq_put (own := RX13) (ci := 13) (C := RX13) (T := TX13) (N := 229) (kv' := [(0, .int 0), (1, .int 0), (2, .int 0), (3, .int 0), (4, .int 0), (5, .int 0), (6, .int (-1)), (16, .ref w10), (19, .ref w13), (20, .ref w14), (21, .ref w15), (22, .ref w16), (23, .ref w17), (24, .ref w18), (25, .ref w19), (42, .int 0), (59, .int 0), (64, .int 0), (65, .ref w56), (68, .int 0), (69, .int 0), (70, .int 0), (71, .int 0), (72, .int 0), (73, .int 0), (74, .int 0), (75, .long 0), (76, .int 0), (79, .int 0), (97, .ref w59), (99, .int 0), (100, .int 0), (132, .int 0), (136, .int 0), (179, .int 0), (180, .int 0), (181, .long 0), (186, .int 0), (188, .int 0), (190, .ref w115), (201, .int 0), (206, .int 0), (211, .int 0)]) hx hb hpp pi13 tyX13 tyX13_ok nmX13 rfl hown hG hW 0 rfl E_m0 0 (by decide) rfl rfl rfl rfl pp13 dX13_same_26 (fun F_m0 H locs hW E_m0 => ?_)
          have hW : pq_W D _ s.heap L f _ [(m0, .inr (13, F_m0)), (w115, .inl (cy 1, 8, .inl (fun _ => 0)))] H locs := hW
          refine lv_aload_n hx hb dX13_same_29 rfl (lv_at hl 0 rfl) ?_
          refine pq_get (own := RX13) (ci := 13) (C := RX13) (T := TX13) (N := 229) (k := 0) (v := .int 0) hx hb hpp pi13 rfl hown hG hW 0 rfl E_m0 0 rfl (by decide) pp13 dX13_same_30 ?_
          refine lv_if_ne (tgt := 51) hx hb dX13_same_33 (by decide) (fun c9 => absurd c9 (by decide)) (fun _ => ?_)
          refine lv_aload_n hx hb dX13_same_36 rfl (lv_at hl 0 rfl) ?_
          refine pq_get (own := RX13) (ci := 13) (C := RX13) (T := TX13) (N := 229) (k := 190) (v := .ref w115) hx hb hpp pi13 rfl hown hG hW 0 rfl E_m0 39 rfl (by decide) pp189 dX13_same_37 ?_
          refine lv_iload_n hx hb dX13_same_40 rfl (lv_at hl 1 rfl) ?_
          refine pq_iald (v := 0) hx hb hG hW 1 rfl (pz_X13_same_4 n1 n2 c1 c2 c3 c4) rfl dX13_same_41 ?_
          refine lv_aload_n hx hb dX13_same_42 rfl (lv_at hl 0 rfl) ?_
          refine pq_get (own := RX13) (ci := 13) (C := RX13) (T := TX13) (N := 229) (k := 190) (v := .ref w115) hx hb hpp pi13 rfl hown hG hW 0 rfl E_m0 39 rfl (by decide) pp189 dX13_same_43 ?_
          refine lv_iload_n hx hb dX13_same_46 rfl (lv_at hl 2 rfl) ?_
          refine pq_iald (v := 0) hx hb hG hW 1 rfl (pz_X13_same_5 n1 n2 c1 c2 c3 c4) rfl dX13_same_47 ?_
          refine lv_icmp_eq (tgt := 53) hx hb dX13_same_48 (by decide) (fun _ => ?_) (fun c9 => absurd c9 (by decide))
          refine lv_iconst (v := 0) hx hb dX13_same_53 (by decide) ?_
          refine lv_istore_n (lv' := [(3, .int 0), (0, .ref m0), (1, .int n1), (2, .int n2)]) hx hb dX13_same_54 rfl hl (by decide) rfl (fun ls hl => ?_)
          refine lv_iload_n hx hb dX13_same_55 rfl (lv_at hl 0 rfl) ?_
          refine lv_aload_n hx hb dX13_same_56 rfl (lv_at hl 1 rfl) ?_
          refine pq_get (own := RX13) (ci := 13) (C := RX13) (T := TX13) (N := 229) (k := 190) (v := .ref w115) hx hb hpp pi13 rfl hown hG hW 0 rfl E_m0 39 rfl (by decide) pp189 dX13_same_57 ?_
          refine lv_iload_n hx hb dX13_same_60 rfl (lv_at hl 2 rfl) ?_
          refine pq_iald (v := 0) hx hb hG hW 1 rfl (pz_X13_same_6 n1 n2 c1 c2 c3 c4) rfl dX13_same_61 ?_
          refine lv_icmp_ge (tgt := 98) hx hb dX13_same_62 (by decide) (fun _ => ?_) (fun c9 => absurd c9 (by decide))
          refine lv_iconst (v := 1) hx hb dX13_same_98 (by decide) ?_
          exact pq_iret hx hb hr hlocks rfl (hW.pick (cs2 := [(m0, .inr (13, F_m0))]) [0] (by decide) rfl) ⟨F_m0, 0, rfl, E_m0.one (i := 0) rfl, Or.inr ⟨rfl, (pz_X13_same_7 n1 n2 c1 c2 c3 c4), rfl⟩⟩ dX13_same_99
        · refine lv_iconst (v := 1) hx hb dX13_same_21 (by decide) ?_
          refine lv_goto (tgt := 26) hx hb dX13_same_22 (by decide) ?_
          refine pq_put (own := RX13) (ci := 13) (C := RX13) (T := TX13) (N := 229) (kv' := [(0, .int 1), (1, .int 0), (2, .int 0), (3, .int 0), (4, .int 0), (5, .int 0), (6, .int (-1)), (16, .ref w10), (19, .ref w13), (20, .ref w14), (21, .ref w15), (22, .ref w16), (23, .ref w17), (24, .ref w18), (25, .ref w19), (42, .int 0), (59, .int 0), (64, .int 0), (65, .ref w56), (68, .int 0), (69, .int 0), (70, .int 0), (71, .int 0), (72, .int 0), (73, .int 0), (74, .int 0), (75, .long 0), (76, .int 0), (79, .int 0), (97, .ref w59), (99, .int 0), (100, .int 0), (132, .int 0), (136, .int 0), (179, .int 0), (180, .int 0), (181, .long 0), (186, .int 0), (188, .int 0), (190, .ref w115), (201, .int 0), (206, .int 0), (211, .int 0)]) hx hb hpp pi13 tyX13 tyX13_ok nmX13 rfl hown hG hW 0 rfl E_m0 0 (by decide) rfl rfl rfl rfl pp13 dX13_same_26 (fun F_m0 H locs hW E_m0 => ?_)
          have hW : pq_W D _ s.heap L f _ [(m0, .inr (13, F_m0)), (w115, .inl (cy 1, 8, .inl (fun _ => 0)))] H locs := hW
          refine lv_aload_n hx hb dX13_same_29 rfl (lv_at hl 0 rfl) ?_
          refine pq_get (own := RX13) (ci := 13) (C := RX13) (T := TX13) (N := 229) (k := 0) (v := .int 1) hx hb hpp pi13 rfl hown hG hW 0 rfl E_m0 0 rfl (by decide) pp13 dX13_same_30 ?_
          refine lv_if_ne (tgt := 51) hx hb dX13_same_33 (by decide) (fun _ => ?_) (fun c9 => absurd c9 (by decide))
          refine lv_iconst (v := 0) hx hb dX13_same_51 (by decide) ?_
          exact pq_iret hx hb hr hlocks rfl (hW.pick (cs2 := [(m0, .inr (13, F_m0))]) [0] (by decide) rfl) ⟨F_m0, 1, rfl, E_m0.one (i := 0) rfl, Or.inl ⟨rfl, (pz_X13_same_8 n1 n2 c1 c2 c3 c4)⟩⟩ dX13_same_52
theorem pz_X13_mean__1 (n1 : Int32) (c1 : n1 < 0) : n1 < 0 ∨ 7 < n1 := by
  have k0 : (0 : Int32).toInt = 0 := by decide
  have k7 : (7 : Int32).toInt = 7 := by decide
  simp only [Int32.lt_iff_toInt_lt, Int32.le_iff_toInt_le, ← Int32.toInt_inj] at c1 ⊢
  omega
theorem pz_X13_mean__2 (n1 : Int32) (c1 : ¬ n1 < 0) (c2 : n1 ≤ 7) : ¬ n1 < 0 := by
  have k0 : (0 : Int32).toInt = 0 := by decide
  have k7 : (7 : Int32).toInt = 7 := by decide
  simp only [Int32.lt_iff_toInt_lt, Int32.le_iff_toInt_le, ← Int32.toInt_inj] at c1 c2 ⊢
  omega
theorem pz_X13_mean__3 (n1 : Int32) (c1 : ¬ n1 < 0) (c2 : n1 ≤ 7) : n1 < 8 := by
  have k0 : (0 : Int32).toInt = 0 := by decide
  have k7 : (7 : Int32).toInt = 7 := by decide
  have k8 : (8 : Int32).toInt = 8 := by decide
  simp only [Int32.lt_iff_toInt_lt, Int32.le_iff_toInt_le, ← Int32.toInt_inj] at c1 c2 ⊢
  omega
theorem pz_X13_mean__4 (n1 : Int32) (c1 : ¬ n1 < 0) (c2 : n1 ≤ 7) : ¬ (n1 < 0 ∨ 7 < n1) := by
  have k0 : (0 : Int32).toInt = 0 := by decide
  have k7 : (7 : Int32).toInt = 7 := by decide
  simp only [Int32.lt_iff_toInt_lt, Int32.le_iff_toInt_le, ← Int32.toInt_inj] at c1 c2 ⊢
  omega
theorem pz_X13_mean__5 (n1 : Int32) (c1 : ¬ n1 < 0) (c2 : ¬ n1 ≤ 7) : n1 < 0 ∨ 7 < n1 := by
  have k0 : (0 : Int32).toInt = 0 := by decide
  have k7 : (7 : Int32).toInt = 7 := by decide
  simp only [Int32.lt_iff_toInt_lt, Int32.le_iff_toInt_le, ← Int32.toInt_inj] at c1 c2 ⊢
  omega
set_option maxHeartbeats 4000000 in
set_option maxRecDepth 100000 in
/-- TongueHouseModel.mean on a new object -/
theorem c_X13_mean_ (l : Launch) (D : va_G) (cy : Nat → ClassId) (sz : Nat) (L : List Nat) (f : Nat → va_E) {w10 w13 w14 w15 w16 w17 w18 w19 w56 w59 : Nat} (m0 w115 : Nat) (F_m0 : List Value) (n1 : Int32) (hC : pq_C L f [(m0, .inr (13, F_m0)), (w115, .inl (cy 1, 8, .inl (fun _ => 0)))]) (E_m0 : pq_E 229 F_m0 [(0, .int 0), (1, .int 0), (2, .int 0), (3, .int 0), (4, .int 0), (5, .int 0), (6, .int (-1)), (16, .ref w10), (19, .ref w13), (20, .ref w14), (21, .ref w15), (22, .ref w16), (23, .ref w17), (24, .ref w18), (25, .ref w19), (42, .int 0), (59, .int 0), (64, .int 0), (65, .ref w56), (68, .int 0), (69, .int 0), (70, .int 0), (71, .int 0), (72, .int 0), (73, .int 0), (74, .int 0), (75, .long 0), (76, .int 0), (79, .int 0), (97, .ref w59), (99, .int 0), (100, .int 0), (132, .int 0), (136, .int 0), (179, .int 0), (180, .int 0), (181, .long 0), (186, .int 0), (188, .int 0), (190, .ref w115), (201, .int 0), (206, .int 0), (211, .int 0)]) : Met l yX13_mean_ (Cond.code yX13_mean_ cX13_mean_ 3 (some .int) :: pp_ws) ({ frames := 1, cells := 0, slots := 0, locals := 22 }) (pw_Pc D cy [.ref m0, .int n1] sz L f) (pq_Qi D sz L f [m0, w115] (fun r cs1 => ∃ (G : List Value) (t : Int32), cs1 = [(m0, .inr (13, G))] ∧ pq_E 229 G [(0, .int t)] ∧ ((t = 1 ∧ (n1 < 0 ∨ 7 < n1)) ∨ (t = 0 ∧ ¬ (n1 < 0 ∨ 7 < n1) ∧ r = (-4))))) 0 0 (pw_A L f sz) := by
  refine Met.ofW (cc := cX13_mean_) (maxL := 3) (ret := (some .int)) (by decide) rfl ?_
  intro p e s m args below meth c s₁ B hml hv
  obtain ⟨rfl, hsz, hG, hP, hD0⟩ := hv
  have hx := B.exec
  have hb := B.bytes
  have hr := B.returns
  have hts := atoms_spec (ws := Cond.code yX13_mean_ cX13_mean_ 3 (some .int) :: pp_ws) B.pre
  have hpp := fun (w : Cond) (h : w ∈ pp_ws) => hts w (List.mem_cons_of_mem _ h)
  have hown : s.vm.findClass RX13 = some m.cls := findClass_of_methodNamed B.named
  have hlocks := B.notSynchronized
  have hw := pw_start (cy := cy) hsz hP hD0
  have hW := pq_start (as := [m0, w115]) hw hC rfl
  have hl := lv_entry ([.ref m0, .int n1]) (n := 3) (Nat.le_of_ble_eq_true rfl)
  rw [lg_entry_eq]
  generalize (lg_sl ([.ref m0, .int n1]) ++ List.replicate (3 - (lg_sl ([.ref m0, .int n1])).length) Slot.unset).toArray = ls at hl ⊢
  have hl : lv_has ls 3 [(0, .ref m0), (1, .int n1)] := hl
  refine lv_aload_n hx hb dX13_mean__0 rfl (lv_at hl 0 rfl) ?_
  refine lv_iload_n hx hb dX13_mean__1 rfl (lv_at hl 1 rfl) ?_
  refine pq_calli hW [0] [1] (by decide) rfl rfl (fun f9 hw9 hC9 => va_runV (C := RX13) (As := [.int n1]) (rest := []) ⟨hx, hb, hml, hown, hts⟩ (c_X13_noPlace l D cy _ L f9 m0 F_m0 n1 hC9 E_m0) (cwV 1 hts (pp_gV pp174 pp173 pp175 pp176 pp20) rfl rfl rfl pd_X13_noPlace ⟨Nat.le_of_ble_eq_true rfl, Nat.le_of_ble_eq_true rfl⟩) (pq_preV hG hw9 hC9 (j := 0) rfl rfl) rfl rfl hl.1 rfl (lv_room (Nat.le_of_ble_eq_true rfl)) dX13_mean__2 ⟨Nat.le_of_ble_eq_true rfl, Nat.le_of_ble_eq_true rfl⟩) (fun r cs1 H locs hP hW => ?_)
  rcases hP with ⟨F_m0, c1, rfl, rfl, E_m0⟩ | ⟨F_m0, c1, c2, rfl, rfl, E_m0⟩ | ⟨F_m0, c1, c2, rfl, rfl, E_m0⟩
  · have hW : pq_W D _ s.heap L f _ [(m0, .inr (13, F_m0)), (w115, .inl (cy 1, 8, .inl (fun _ => 0)))] H locs := hW
    refine lv_if_eq (tgt := 10) hx hb dX13_mean__5 (by decide) (fun c9 => absurd c9 (by decide)) (fun _ => ?_)
    refine lv_iconst (v := 0) hx hb dX13_mean__8 (by decide) ?_
    exact pq_iret hx hb hr hlocks rfl (hW.pick (cs2 := [(m0, .inr (13, F_m0))]) [0] (by decide) rfl) ⟨F_m0, 1, rfl, E_m0.one (i := 0) rfl, Or.inl ⟨rfl, (pz_X13_mean__1 n1 c1)⟩⟩ dX13_mean__9
  · have hW : pq_W D _ s.heap L f _ [(m0, .inr (13, F_m0)), (w115, .inl (cy 1, 8, .inl (fun _ => 0)))] H locs := hW
    refine lv_if_eq (tgt := 10) hx hb dX13_mean__5 (by decide) (fun _ => ?_) (fun c9 => absurd c9 (by decide))
    refine lv_aload_n hx hb dX13_mean__10 rfl (lv_at hl 0 rfl) ?_
    refine lv_iconst (v := 0) hx hb dX13_mean__11 (by decide) ?_
    refine pq_put (own := RX13) (ci := 13) (C := RX13) (T := TX13) (N := 229) (kv' := [(0, .int 0), (1, .int 0), (2, .int 0), (3, .int 0), (4, .int 0), (5, .int 0), (6, .int (-1)), (16, .ref w10), (19, .ref w13), (20, .ref w14), (21, .ref w15), (22, .ref w16), (23, .ref w17), (24, .ref w18), (25, .ref w19), (42, .int 0), (59, .int 0), (64, .int 0), (65, .ref w56), (68, .int 0), (69, .int 0), (70, .int 0), (71, .int 0), (72, .int 0), (73, .int 0), (74, .int 0), (75, .long 0), (76, .int 0), (79, .int 0), (97, .ref w59), (99, .int 0), (100, .int 0), (132, .int 0), (136, .int 0), (179, .int 0), (180, .int 0), (181, .long 0), (186, .int 0), (188, .int 0), (190, .ref w115), (201, .int 0), (206, .int 0), (211, .int 0)]) hx hb hpp pi13 tyX13 tyX13_ok nmX13 rfl hown hG hW 0 rfl E_m0 70 (by decide) rfl rfl rfl rfl pp109 dX13_mean__12 (fun F_m0 H locs hW E_m0 => ?_)
    have hW : pq_W D _ s.heap L f _ [(m0, .inr (13, F_m0)), (w115, .inl (cy 1, 8, .inl (fun _ => 0)))] H locs := hW
    refine lv_aload_n hx hb dX13_mean__15 rfl (lv_at hl 0 rfl) ?_
    refine lv_iload_n hx hb dX13_mean__16 rfl (lv_at hl 1 rfl) ?_
    refine pq_calli hW [0, 1] [] (by decide) rfl rfl (fun f9 hw9 hC9 => va_runV (C := RX13) (As := [.int n1]) (rest := []) ⟨hx, hb, hml, hown, hts⟩ (c_X13_takes l D cy _ L f9 m0 w115 F_m0 n1 (pz_X13_mean__2 n1 c1 c2) (pz_X13_mean__3 n1 c1 c2) hC9 E_m0) (cwV 1 hts (pp_gV pp191 pp190 pp192 pp193 pp20) rfl rfl rfl pd_X13_takes ⟨Nat.le_of_ble_eq_true rfl, Nat.le_of_ble_eq_true rfl⟩) (pq_preV hG hw9 hC9 (j := 0) rfl rfl) rfl rfl hl.1 rfl (lv_room (Nat.le_of_ble_eq_true rfl)) dX13_mean__17 ⟨Nat.le_of_ble_eq_true rfl, Nat.le_of_ble_eq_true rfl⟩) (fun r cs1 H locs hP hW => ?_)
    obtain ⟨F_m0, rfl, rfl, E_m0⟩ := hP
    have hW : pq_W D _ s.heap L f _ [(m0, .inr (13, F_m0)), (w115, .inl (cy 1, 8, .inl (fun _ => 0)))] H locs := hW
    refine lv_if_ne (tgt := 26) hx hb dX13_mean__20 (by decide) (fun c9 => absurd c9 (by decide)) (fun _ => ?_)
    refine lv_bipush (v := (-4)) hx hb dX13_mean__23 (by decide) ?_
    exact pq_iret hx hb hr hlocks rfl (hW.pick (cs2 := [(m0, .inr (13, F_m0))]) [0] (by decide) rfl) ⟨F_m0, 0, rfl, E_m0.one (i := 0) rfl, Or.inr ⟨rfl, (pz_X13_mean__4 n1 c1 c2), rfl⟩⟩ dX13_mean__25
  · have hW : pq_W D _ s.heap L f _ [(m0, .inr (13, F_m0)), (w115, .inl (cy 1, 8, .inl (fun _ => 0)))] H locs := hW
    refine lv_if_eq (tgt := 10) hx hb dX13_mean__5 (by decide) (fun c9 => absurd c9 (by decide)) (fun _ => ?_)
    refine lv_iconst (v := 0) hx hb dX13_mean__8 (by decide) ?_
    exact pq_iret hx hb hr hlocks rfl (hW.pick (cs2 := [(m0, .inr (13, F_m0))]) [0] (by decide) rfl) ⟨F_m0, 1, rfl, E_m0.one (i := 0) rfl, Or.inl ⟨rfl, (pz_X13_mean__5 n1 c1 c2)⟩⟩ dX13_mean__9
theorem pz_X13_truth_1 (n1 : Int32) (c1 : n1 < 0) : n1 < 0 ∨ 7 < n1 := by
  have k0 : (0 : Int32).toInt = 0 := by decide
  have k7 : (7 : Int32).toInt = 7 := by decide
  simp only [Int32.lt_iff_toInt_lt, Int32.le_iff_toInt_le, ← Int32.toInt_inj] at c1 ⊢
  omega
theorem pz_X13_truth_2 (n1 : Int32) (c1 : ¬ n1 < 0) (c2 : n1 ≤ 7) : ¬ n1 < 0 := by
  have k0 : (0 : Int32).toInt = 0 := by decide
  have k7 : (7 : Int32).toInt = 7 := by decide
  simp only [Int32.lt_iff_toInt_lt, Int32.le_iff_toInt_le, ← Int32.toInt_inj] at c1 c2 ⊢
  omega
theorem pz_X13_truth_3 (n1 : Int32) (c1 : ¬ n1 < 0) (c2 : n1 ≤ 7) : n1 < 8 := by
  have k0 : (0 : Int32).toInt = 0 := by decide
  have k7 : (7 : Int32).toInt = 7 := by decide
  have k8 : (8 : Int32).toInt = 8 := by decide
  simp only [Int32.lt_iff_toInt_lt, Int32.le_iff_toInt_le, ← Int32.toInt_inj] at c1 c2 ⊢
  omega
theorem pz_X13_truth_4 (n1 : Int32) (c1 : ¬ n1 < 0) (c2 : n1 ≤ 7) : ¬ (n1 < 0 ∨ 7 < n1) := by
  have k0 : (0 : Int32).toInt = 0 := by decide
  have k7 : (7 : Int32).toInt = 7 := by decide
  simp only [Int32.lt_iff_toInt_lt, Int32.le_iff_toInt_le, ← Int32.toInt_inj] at c1 c2 ⊢
  omega
theorem pz_X13_truth_5 (n1 : Int32) (c1 : ¬ n1 < 0) (c2 : ¬ n1 ≤ 7) : n1 < 0 ∨ 7 < n1 := by
  have k0 : (0 : Int32).toInt = 0 := by decide
  have k7 : (7 : Int32).toInt = 7 := by decide
  simp only [Int32.lt_iff_toInt_lt, Int32.le_iff_toInt_le, ← Int32.toInt_inj] at c1 c2 ⊢
  omega
set_option maxHeartbeats 4000000 in
set_option maxRecDepth 100000 in
/-- TongueHouseModel.truth on a new object -/
theorem c_X13_truth (l : Launch) (D : va_G) (cy : Nat → ClassId) (sz : Nat) (L : List Nat) (f : Nat → va_E) {w10 w13 w14 w15 w16 w17 w18 w19 w56 w59 : Nat} (m0 w115 : Nat) (F_m0 : List Value) (n1 : Int32) (hC : pq_C L f [(m0, .inr (13, F_m0)), (w115, .inl (cy 1, 8, .inl (fun _ => 0)))]) (E_m0 : pq_E 229 F_m0 [(0, .int 0), (1, .int 0), (2, .int 0), (3, .int 0), (4, .int 0), (5, .int 0), (6, .int (-1)), (16, .ref w10), (19, .ref w13), (20, .ref w14), (21, .ref w15), (22, .ref w16), (23, .ref w17), (24, .ref w18), (25, .ref w19), (42, .int 0), (59, .int 0), (64, .int 0), (65, .ref w56), (68, .int 0), (69, .int 0), (70, .int 0), (71, .int 0), (72, .int 0), (73, .int 0), (74, .int 0), (75, .long 0), (76, .int 0), (79, .int 0), (97, .ref w59), (99, .int 0), (100, .int 0), (132, .int 0), (136, .int 0), (179, .int 0), (180, .int 0), (181, .long 0), (186, .int 0), (188, .int 0), (190, .ref w115), (201, .int 0), (206, .int 0), (211, .int 0)]) : Met l yX13_truth (Cond.code yX13_truth cX13_truth 3 (some .int) :: pp_ws) ({ frames := 1, cells := 0, slots := 0, locals := 22 }) (pw_Pc D cy [.ref m0, .int n1] sz L f) (pq_Qi D sz L f [m0, w115] (fun r cs1 => ∃ (G : List Value) (t : Int32), cs1 = [(m0, .inr (13, G))] ∧ pq_E 229 G [(0, .int t)] ∧ ((t = 1 ∧ (n1 < 0 ∨ 7 < n1)) ∨ (t = 0 ∧ ¬ (n1 < 0 ∨ 7 < n1) ∧ r = (-4))))) 0 0 (pw_A L f sz) := by
  refine Met.ofW (cc := cX13_truth) (maxL := 3) (ret := (some .int)) (by decide) rfl ?_
  intro p e s m args below meth c s₁ B hml hv
  obtain ⟨rfl, hsz, hG, hP, hD0⟩ := hv
  have hx := B.exec
  have hb := B.bytes
  have hr := B.returns
  have hts := atoms_spec (ws := Cond.code yX13_truth cX13_truth 3 (some .int) :: pp_ws) B.pre
  have hpp := fun (w : Cond) (h : w ∈ pp_ws) => hts w (List.mem_cons_of_mem _ h)
  have hown : s.vm.findClass RX13 = some m.cls := findClass_of_methodNamed B.named
  have hlocks := B.notSynchronized
  have hw := pw_start (cy := cy) hsz hP hD0
  have hW := pq_start (as := [m0, w115]) hw hC rfl
  have hl := lv_entry ([.ref m0, .int n1]) (n := 3) (Nat.le_of_ble_eq_true rfl)
  rw [lg_entry_eq]
  generalize (lg_sl ([.ref m0, .int n1]) ++ List.replicate (3 - (lg_sl ([.ref m0, .int n1])).length) Slot.unset).toArray = ls at hl ⊢
  have hl : lv_has ls 3 [(0, .ref m0), (1, .int n1)] := hl
  refine lv_aload_n hx hb dX13_truth_0 rfl (lv_at hl 0 rfl) ?_
  refine lv_iload_n hx hb dX13_truth_1 rfl (lv_at hl 1 rfl) ?_
  refine pq_calli hW [0] [1] (by decide) rfl rfl (fun f9 hw9 hC9 => va_runV (C := RX13) (As := [.int n1]) (rest := []) ⟨hx, hb, hml, hown, hts⟩ (c_X13_noPlace l D cy _ L f9 m0 F_m0 n1 hC9 E_m0) (cwV 1 hts (pp_gV pp174 pp173 pp175 pp176 pp20) rfl rfl rfl pd_X13_noPlace ⟨Nat.le_of_ble_eq_true rfl, Nat.le_of_ble_eq_true rfl⟩) (pq_preV hG hw9 hC9 (j := 0) rfl rfl) rfl rfl hl.1 rfl (lv_room (Nat.le_of_ble_eq_true rfl)) dX13_truth_2 ⟨Nat.le_of_ble_eq_true rfl, Nat.le_of_ble_eq_true rfl⟩) (fun r cs1 H locs hP hW => ?_)
  rcases hP with ⟨F_m0, c1, rfl, rfl, E_m0⟩ | ⟨F_m0, c1, c2, rfl, rfl, E_m0⟩ | ⟨F_m0, c1, c2, rfl, rfl, E_m0⟩
  · have hW : pq_W D _ s.heap L f _ [(m0, .inr (13, F_m0)), (w115, .inl (cy 1, 8, .inl (fun _ => 0)))] H locs := hW
    refine lv_if_eq (tgt := 10) hx hb dX13_truth_5 (by decide) (fun c9 => absurd c9 (by decide)) (fun _ => ?_)
    refine lv_iconst (v := 0) hx hb dX13_truth_8 (by decide) ?_
    exact pq_iret hx hb hr hlocks rfl (hW.pick (cs2 := [(m0, .inr (13, F_m0))]) [0] (by decide) rfl) ⟨F_m0, 1, rfl, E_m0.one (i := 0) rfl, Or.inl ⟨rfl, (pz_X13_truth_1 n1 c1)⟩⟩ dX13_truth_9
  · have hW : pq_W D _ s.heap L f _ [(m0, .inr (13, F_m0)), (w115, .inl (cy 1, 8, .inl (fun _ => 0)))] H locs := hW
    refine lv_if_eq (tgt := 10) hx hb dX13_truth_5 (by decide) (fun _ => ?_) (fun c9 => absurd c9 (by decide))
    refine lv_aload_n hx hb dX13_truth_10 rfl (lv_at hl 0 rfl) ?_
    refine lv_iload_n hx hb dX13_truth_11 rfl (lv_at hl 1 rfl) ?_
    refine pq_calli hW [0, 1] [] (by decide) rfl rfl (fun f9 hw9 hC9 => va_runV (C := RX13) (As := [.int n1]) (rest := []) ⟨hx, hb, hml, hown, hts⟩ (c_X13_takes l D cy _ L f9 m0 w115 F_m0 n1 (pz_X13_truth_2 n1 c1 c2) (pz_X13_truth_3 n1 c1 c2) hC9 E_m0) (cwV 1 hts (pp_gV pp191 pp190 pp192 pp193 pp20) rfl rfl rfl pd_X13_takes ⟨Nat.le_of_ble_eq_true rfl, Nat.le_of_ble_eq_true rfl⟩) (pq_preV hG hw9 hC9 (j := 0) rfl rfl) rfl rfl hl.1 rfl (lv_room (Nat.le_of_ble_eq_true rfl)) dX13_truth_12 ⟨Nat.le_of_ble_eq_true rfl, Nat.le_of_ble_eq_true rfl⟩) (fun r cs1 H locs hP hW => ?_)
    obtain ⟨F_m0, rfl, rfl, E_m0⟩ := hP
    have hW : pq_W D _ s.heap L f _ [(m0, .inr (13, F_m0)), (w115, .inl (cy 1, 8, .inl (fun _ => 0)))] H locs := hW
    refine lv_if_ne (tgt := 21) hx hb dX13_truth_15 (by decide) (fun c9 => absurd c9 (by decide)) (fun _ => ?_)
    refine lv_bipush (v := (-4)) hx hb dX13_truth_18 (by decide) ?_
    exact pq_iret hx hb hr hlocks rfl (hW.pick (cs2 := [(m0, .inr (13, F_m0))]) [0] (by decide) rfl) ⟨F_m0, 0, rfl, E_m0.one (i := 0) rfl, Or.inr ⟨rfl, (pz_X13_truth_4 n1 c1 c2), rfl⟩⟩ dX13_truth_20
  · have hW : pq_W D _ s.heap L f _ [(m0, .inr (13, F_m0)), (w115, .inl (cy 1, 8, .inl (fun _ => 0)))] H locs := hW
    refine lv_if_eq (tgt := 10) hx hb dX13_truth_5 (by decide) (fun c9 => absurd c9 (by decide)) (fun _ => ?_)
    refine lv_iconst (v := 0) hx hb dX13_truth_8 (by decide) ?_
    exact pq_iret hx hb hr hlocks rfl (hW.pick (cs2 := [(m0, .inr (13, F_m0))]) [0] (by decide) rfl) ⟨F_m0, 1, rfl, E_m0.one (i := 0) rfl, Or.inl ⟨rfl, (pz_X13_truth_5 n1 c1 c2)⟩⟩ dX13_truth_9
theorem pz_X13_count_1 (n2 : Int32) (c1 : n2 < 0) : n2 < 0 ∨ 7 < n2 := by
  have k0 : (0 : Int32).toInt = 0 := by decide
  have k7 : (7 : Int32).toInt = 7 := by decide
  simp only [Int32.lt_iff_toInt_lt, Int32.le_iff_toInt_le, ← Int32.toInt_inj] at c1 ⊢
  omega
theorem pz_X13_count_2 (n2 : Int32) (c1 : ¬ n2 < 0) (c2 : 14 < n2) : n2 < 0 ∨ 7 < n2 := by
  have k0 : (0 : Int32).toInt = 0 := by decide
  have k7 : (7 : Int32).toInt = 7 := by decide
  have k14 : (14 : Int32).toInt = 14 := by decide
  simp only [Int32.lt_iff_toInt_lt, Int32.le_iff_toInt_le, ← Int32.toInt_inj] at c1 c2 ⊢
  omega
theorem pz_X13_count_3 (n2 : Int32) (c1 : ¬ n2 < 0) (c2 : ¬ 14 < n2) (c3 : n2 ≤ 7) : n2 = 0 ∨ n2 = 1 ∨ n2 = 2 ∨ n2 = 3 ∨ n2 = 4 ∨ n2 = 5 ∨ n2 = 6 ∨ n2 = 7 := by
  have k0 : (0 : Int32).toInt = 0 := by decide
  have k1 : (1 : Int32).toInt = 1 := by decide
  have k2 : (2 : Int32).toInt = 2 := by decide
  have k3 : (3 : Int32).toInt = 3 := by decide
  have k4 : (4 : Int32).toInt = 4 := by decide
  have k5 : (5 : Int32).toInt = 5 := by decide
  have k6 : (6 : Int32).toInt = 6 := by decide
  have k7 : (7 : Int32).toInt = 7 := by decide
  have k14 : (14 : Int32).toInt = 14 := by decide
  simp only [Int32.lt_iff_toInt_lt, Int32.le_iff_toInt_le, ← Int32.toInt_inj] at c1 c2 c3 ⊢
  omega
theorem pz_X13_count_4 (n2 : Int32) (c1 : ¬ n2 < 0) (c2 : ¬ 14 < n2) (c3 : n2 ≤ 7) : ¬ (n2 < 0 ∨ 7 < n2) := by
  have k0 : (0 : Int32).toInt = 0 := by decide
  have k7 : (7 : Int32).toInt = 7 := by decide
  have k14 : (14 : Int32).toInt = 14 := by decide
  simp only [Int32.lt_iff_toInt_lt, Int32.le_iff_toInt_le, ← Int32.toInt_inj] at c1 c2 c3 ⊢
  omega
theorem pz_X13_count_5 (n2 : Int32) (c1 : ¬ n2 < 0) (c2 : ¬ 14 < n2) (c3 : n2 ≤ 7) : ¬ (n2 < 0 ∨ 7 < n2) := by
  have k0 : (0 : Int32).toInt = 0 := by decide
  have k7 : (7 : Int32).toInt = 7 := by decide
  have k14 : (14 : Int32).toInt = 14 := by decide
  simp only [Int32.lt_iff_toInt_lt, Int32.le_iff_toInt_le, ← Int32.toInt_inj] at c1 c2 c3 ⊢
  omega
theorem pz_X13_count_6 (n2 : Int32) (c1 : ¬ n2 < 0) (c2 : ¬ 14 < n2) (c3 : n2 ≤ 7) : ¬ (n2 < 0 ∨ 7 < n2) := by
  have k0 : (0 : Int32).toInt = 0 := by decide
  have k7 : (7 : Int32).toInt = 7 := by decide
  have k14 : (14 : Int32).toInt = 14 := by decide
  simp only [Int32.lt_iff_toInt_lt, Int32.le_iff_toInt_le, ← Int32.toInt_inj] at c1 c2 c3 ⊢
  omega
theorem pz_X13_count_7 (n2 : Int32) (c1 : ¬ n2 < 0) (c2 : ¬ 14 < n2) (c3 : n2 ≤ 7) : ¬ (n2 < 0 ∨ 7 < n2) := by
  have k0 : (0 : Int32).toInt = 0 := by decide
  have k7 : (7 : Int32).toInt = 7 := by decide
  have k14 : (14 : Int32).toInt = 14 := by decide
  simp only [Int32.lt_iff_toInt_lt, Int32.le_iff_toInt_le, ← Int32.toInt_inj] at c1 c2 c3 ⊢
  omega
theorem pz_X13_count_8 (n2 : Int32) (c1 : ¬ n2 < 0) (c2 : ¬ 14 < n2) (c3 : n2 ≤ 7) : ¬ (n2 < 0 ∨ 7 < n2) := by
  have k0 : (0 : Int32).toInt = 0 := by decide
  have k7 : (7 : Int32).toInt = 7 := by decide
  have k14 : (14 : Int32).toInt = 14 := by decide
  simp only [Int32.lt_iff_toInt_lt, Int32.le_iff_toInt_le, ← Int32.toInt_inj] at c1 c2 c3 ⊢
  omega
theorem pz_X13_count_9 (n2 : Int32) (c1 : ¬ n2 < 0) (c2 : ¬ 14 < n2) (c3 : n2 ≤ 7) : ¬ (n2 < 0 ∨ 7 < n2) := by
  have k0 : (0 : Int32).toInt = 0 := by decide
  have k7 : (7 : Int32).toInt = 7 := by decide
  have k14 : (14 : Int32).toInt = 14 := by decide
  simp only [Int32.lt_iff_toInt_lt, Int32.le_iff_toInt_le, ← Int32.toInt_inj] at c1 c2 c3 ⊢
  omega
theorem pz_X13_count_10 (n2 : Int32) (c1 : ¬ n2 < 0) (c2 : ¬ 14 < n2) (c3 : n2 ≤ 7) : ¬ (n2 < 0 ∨ 7 < n2) := by
  have k0 : (0 : Int32).toInt = 0 := by decide
  have k7 : (7 : Int32).toInt = 7 := by decide
  have k14 : (14 : Int32).toInt = 14 := by decide
  simp only [Int32.lt_iff_toInt_lt, Int32.le_iff_toInt_le, ← Int32.toInt_inj] at c1 c2 c3 ⊢
  omega
theorem pz_X13_count_11 (n2 : Int32) (c1 : ¬ n2 < 0) (c2 : ¬ 14 < n2) (c3 : n2 ≤ 7) : ¬ (n2 < 0 ∨ 7 < n2) := by
  have k0 : (0 : Int32).toInt = 0 := by decide
  have k7 : (7 : Int32).toInt = 7 := by decide
  have k14 : (14 : Int32).toInt = 14 := by decide
  simp only [Int32.lt_iff_toInt_lt, Int32.le_iff_toInt_le, ← Int32.toInt_inj] at c1 c2 c3 ⊢
  omega
theorem pz_X13_count_12 (n1 n2 : Int32) (c1 : ¬ n2 < 0) (c2 : ¬ 14 < n2) (c3 : ¬ n2 ≤ 7) (c4 : n1 < 0) : n2 < 0 ∨ 7 < n2 := by
  have k0 : (0 : Int32).toInt = 0 := by decide
  have k7 : (7 : Int32).toInt = 7 := by decide
  have k14 : (14 : Int32).toInt = 14 := by decide
  simp only [Int32.lt_iff_toInt_lt, Int32.le_iff_toInt_le, ← Int32.toInt_inj] at c1 c2 c3 c4 ⊢
  omega
theorem pz_X13_count_13 (n1 n2 : Int32) (c1 : ¬ n2 < 0) (c2 : ¬ 14 < n2) (c3 : ¬ n2 ≤ 7) (c4 : ¬ n1 < 0) (c5 : n1 < 0) : False := by
  have k0 : (0 : Int32).toInt = 0 := by decide
  have k7 : (7 : Int32).toInt = 7 := by decide
  have k14 : (14 : Int32).toInt = 14 := by decide
  simp only [Int32.lt_iff_toInt_lt, Int32.le_iff_toInt_le, ← Int32.toInt_inj] at c1 c2 c3 c4 c5 ⊢
  omega
theorem pz_X13_count_14 (n1 n2 : Int32) (c1 : ¬ n2 < 0) (c2 : ¬ 14 < n2) (c3 : ¬ n2 ≤ 7) (c4 : ¬ n1 < 0) : n2 < 0 ∨ 7 < n2 := by
  have k0 : (0 : Int32).toInt = 0 := by decide
  have k7 : (7 : Int32).toInt = 7 := by decide
  have k14 : (14 : Int32).toInt = 14 := by decide
  simp only [Int32.lt_iff_toInt_lt, Int32.le_iff_toInt_le, ← Int32.toInt_inj] at c1 c2 c3 c4 ⊢
  omega
set_option maxHeartbeats 4000000 in
set_option maxRecDepth 100000 in
/-- TongueHouseModel.count on a new object -/
theorem c_X13_count (l : Launch) (D : va_G) (cy : Nat → ClassId) (sz : Nat) (L : List Nat) (f : Nat → va_E) {w10 w13 w14 w15 w16 w17 w18 w19 w56 w59 w115 : Nat} (m0 : Nat) (F_m0 : List Value) (n1 : Int32) (n2 : Int32) (hC : pq_C L f [(m0, .inr (13, F_m0))]) (E_m0 : pq_E 229 F_m0 [(0, .int 0), (1, .int 0), (2, .int 0), (3, .int 0), (4, .int 0), (5, .int 0), (6, .int (-1)), (16, .ref w10), (19, .ref w13), (20, .ref w14), (21, .ref w15), (22, .ref w16), (23, .ref w17), (24, .ref w18), (25, .ref w19), (42, .int 0), (59, .int 0), (64, .int 0), (65, .ref w56), (68, .int 0), (69, .int 0), (70, .int 0), (71, .int 0), (72, .int 0), (73, .int 0), (74, .int 0), (75, .long 0), (76, .int 0), (79, .int 0), (97, .ref w59), (99, .int 0), (100, .int 0), (132, .int 0), (136, .int 0), (179, .int 0), (180, .int 0), (181, .long 0), (186, .int 0), (188, .int 0), (190, .ref w115), (201, .int 0), (206, .int 0), (211, .int 0)]) : Met l yX13_count (Cond.code yX13_count cX13_count 3 (some .int) :: pp_ws) ({ frames := 1, cells := 0, slots := 0, locals := 20 }) (pw_Pc D cy [.ref m0, .int n1, .int n2] sz L f) (pq_Qi D sz L f [m0] (fun r cs1 => ∃ (G : List Value) (t : Int32), cs1 = [(m0, .inr (13, G))] ∧ pq_E 229 G [(0, .int t)] ∧ ((t = 1 ∧ (n2 < 0 ∨ 7 < n2)) ∨ (t = 0 ∧ ¬ (n2 < 0 ∨ 7 < n2) ∧ r = 0)))) 0 0 (pw_A L f sz) := by
  refine Met.ofW (cc := cX13_count) (maxL := 3) (ret := (some .int)) (by decide) rfl ?_
  intro p e s m args below meth c s₁ B hml hv
  obtain ⟨rfl, hsz, hG, hP, hD0⟩ := hv
  have hx := B.exec
  have hb := B.bytes
  have hr := B.returns
  have hts := atoms_spec (ws := Cond.code yX13_count cX13_count 3 (some .int) :: pp_ws) B.pre
  have hpp := fun (w : Cond) (h : w ∈ pp_ws) => hts w (List.mem_cons_of_mem _ h)
  have hown : s.vm.findClass RX13 = some m.cls := findClass_of_methodNamed B.named
  have hlocks := B.notSynchronized
  have hw := pw_start (cy := cy) hsz hP hD0
  have hW := pq_start (as := [m0]) hw hC rfl
  have hl := lv_entry ([.ref m0, .int n1, .int n2]) (n := 3) (Nat.le_of_ble_eq_true rfl)
  rw [lg_entry_eq]
  generalize (lg_sl ([.ref m0, .int n1, .int n2]) ++ List.replicate (3 - (lg_sl ([.ref m0, .int n1, .int n2])).length) Slot.unset).toArray = ls at hl ⊢
  have hl : lv_has ls 3 [(0, .ref m0), (1, .int n1), (2, .int n2)] := hl
  refine lv_aload_n hx hb dX13_count_0 rfl (lv_at hl 0 rfl) ?_
  refine lv_iconst (v := 0) hx hb dX13_count_1 (by decide) ?_
  refine pq_put (own := RX13) (ci := 13) (C := RX13) (T := TX13) (N := 229) (kv' := [(0, .int 0), (1, .int 0), (2, .int 0), (3, .int 0), (4, .int 0), (5, .int 0), (6, .int (-1)), (16, .ref w10), (19, .ref w13), (20, .ref w14), (21, .ref w15), (22, .ref w16), (23, .ref w17), (24, .ref w18), (25, .ref w19), (42, .int 0), (59, .int 0), (64, .int 0), (65, .ref w56), (68, .int 0), (69, .int 0), (70, .int 0), (71, .int 0), (72, .int 0), (73, .int 0), (74, .int 0), (75, .long 0), (76, .int 0), (79, .int 0), (97, .ref w59), (99, .int 0), (100, .int 0), (132, .int 0), (136, .int 0), (179, .int 0), (180, .int 0), (181, .long 0), (186, .int 0), (188, .int 0), (190, .ref w115), (201, .int 0), (206, .int 0), (211, .int 0)]) hx hb hpp pi13 tyX13 tyX13_ok nmX13 rfl hown hG hW 0 rfl E_m0 0 (by decide) rfl rfl rfl rfl pp13 dX13_count_2 (fun F_m0 H locs hW E_m0 => ?_)
  have hW : pq_W D _ s.heap L f _ [(m0, .inr (13, F_m0))] H locs := hW
  refine lv_iload_n hx hb dX13_count_5 rfl (lv_at hl 2 rfl) ?_
  refine lv_if_lt (tgt := 33) hx hb dX13_count_6 (by decide) (fun c1 => ?_) (fun c1 => ?_)
  · refine lv_aload_n hx hb dX13_count_33 rfl (lv_at hl 0 rfl) ?_
    refine pq_calli hW [0] [] (by decide) rfl rfl (fun f9 hw9 hC9 => va_runV (C := RX13) (As := []) (rest := []) ⟨hx, hb, hml, hown, hts⟩ (c_X13_bad l D cy _ L f9 m0 F_m0 hC9 E_m0) (cwV 0 hts (pp_gV pp24 pp23 pp25 pp26 pp20) rfl rfl rfl pd_X13_bad ⟨Nat.le_of_ble_eq_true rfl, Nat.le_of_ble_eq_true rfl⟩) (pq_preV hG hw9 hC9 (j := 0) rfl rfl) rfl rfl hl.1 rfl (lv_room (Nat.le_of_ble_eq_true rfl)) dX13_count_34 ⟨Nat.le_of_ble_eq_true rfl, Nat.le_of_ble_eq_true rfl⟩) (fun r cs1 H locs hP hW => ?_)
    obtain ⟨F_m0, rfl, rfl, E_m0⟩ := hP
    have hW : pq_W D _ s.heap L f _ [(m0, .inr (13, F_m0))] H locs := hW
    exact pq_iret hx hb hr hlocks rfl hW ⟨F_m0, 1, rfl, E_m0.one (i := 0) rfl, Or.inl ⟨rfl, (pz_X13_count_1 n2 c1)⟩⟩ dX13_count_37
  · refine lv_iload_n hx hb dX13_count_9 rfl (lv_at hl 2 rfl) ?_
    refine lv_bipush (v := 14) hx hb dX13_count_10 (by decide) ?_
    refine lv_icmp_gt (tgt := 33) hx hb dX13_count_12 (by decide) (fun c2 => ?_) (fun c2 => ?_)
    · refine lv_aload_n hx hb dX13_count_33 rfl (lv_at hl 0 rfl) ?_
      refine pq_calli hW [0] [] (by decide) rfl rfl (fun f9 hw9 hC9 => va_runV (C := RX13) (As := []) (rest := []) ⟨hx, hb, hml, hown, hts⟩ (c_X13_bad l D cy _ L f9 m0 F_m0 hC9 E_m0) (cwV 0 hts (pp_gV pp24 pp23 pp25 pp26 pp20) rfl rfl rfl pd_X13_bad ⟨Nat.le_of_ble_eq_true rfl, Nat.le_of_ble_eq_true rfl⟩) (pq_preV hG hw9 hC9 (j := 0) rfl rfl) rfl rfl hl.1 rfl (lv_room (Nat.le_of_ble_eq_true rfl)) dX13_count_34 ⟨Nat.le_of_ble_eq_true rfl, Nat.le_of_ble_eq_true rfl⟩) (fun r cs1 H locs hP hW => ?_)
      obtain ⟨F_m0, rfl, rfl, E_m0⟩ := hP
      have hW : pq_W D _ s.heap L f _ [(m0, .inr (13, F_m0))] H locs := hW
      exact pq_iret hx hb hr hlocks rfl hW ⟨F_m0, 1, rfl, E_m0.one (i := 0) rfl, Or.inl ⟨rfl, (pz_X13_count_2 n2 c1 c2)⟩⟩ dX13_count_37
    · refine lv_iload_n hx hb dX13_count_15 rfl (lv_at hl 2 rfl) ?_
      refine lv_bipush (v := 7) hx hb dX13_count_16 (by decide) ?_
      refine lv_icmp_le (tgt := 38) hx hb dX13_count_18 (by decide) (fun c3 => ?_) (fun c3 => ?_)
      · refine lv_iload_n hx hb dX13_count_38 rfl (lv_at hl 2 rfl) ?_
        rcases (pz_X13_count_3 n2 c1 c2 c3) with rfl | rfl | rfl | rfl | rfl | rfl | rfl | rfl
        · refine lv_tableIn (tgt := 108) hx hb dX13_count_39 (by decide) (by decide) rfl (by decide) ?_
          refine lv_aload_n hx hb dX13_count_108 rfl (lv_at hl 0 rfl) ?_
          refine pq_get (own := RX13) (ci := 13) (C := RX13) (T := TX13) (N := 229) (k := 1) (v := .int 0) hx hb hpp pi13 rfl hown hG hW 0 rfl E_m0 1 rfl (by decide) pp74 dX13_count_109 ?_
          exact pq_iret hx hb hr hlocks rfl hW ⟨F_m0, 0, rfl, E_m0.one (i := 0) rfl, Or.inr ⟨rfl, (pz_X13_count_4 0 c1 c2 c3), rfl⟩⟩ dX13_count_112
        · refine lv_tableIn (tgt := 113) hx hb dX13_count_39 (by decide) (by decide) rfl (by decide) ?_
          refine lv_aload_n hx hb dX13_count_113 rfl (lv_at hl 0 rfl) ?_
          refine pq_get (own := RX13) (ci := 13) (C := RX13) (T := TX13) (N := 229) (k := 2) (v := .int 0) hx hb hpp pi13 rfl hown hG hW 0 rfl E_m0 2 rfl (by decide) pp75 dX13_count_114 ?_
          exact pq_iret hx hb hr hlocks rfl hW ⟨F_m0, 0, rfl, E_m0.one (i := 0) rfl, Or.inr ⟨rfl, (pz_X13_count_5 1 c1 c2 c3), rfl⟩⟩ dX13_count_117
        · refine lv_tableIn (tgt := 118) hx hb dX13_count_39 (by decide) (by decide) rfl (by decide) ?_
          refine lv_aload_n hx hb dX13_count_118 rfl (lv_at hl 0 rfl) ?_
          refine pq_get (own := RX13) (ci := 13) (C := RX13) (T := TX13) (N := 229) (k := 3) (v := .int 0) hx hb hpp pi13 rfl hown hG hW 0 rfl E_m0 3 rfl (by decide) pp76 dX13_count_119 ?_
          exact pq_iret hx hb hr hlocks rfl hW ⟨F_m0, 0, rfl, E_m0.one (i := 0) rfl, Or.inr ⟨rfl, (pz_X13_count_6 2 c1 c2 c3), rfl⟩⟩ dX13_count_122
        · refine lv_tableIn (tgt := 123) hx hb dX13_count_39 (by decide) (by decide) rfl (by decide) ?_
          refine lv_aload_n hx hb dX13_count_123 rfl (lv_at hl 0 rfl) ?_
          refine pq_get (own := RX13) (ci := 13) (C := RX13) (T := TX13) (N := 229) (k := 4) (v := .int 0) hx hb hpp pi13 rfl hown hG hW 0 rfl E_m0 4 rfl (by decide) pp77 dX13_count_124 ?_
          exact pq_iret hx hb hr hlocks rfl hW ⟨F_m0, 0, rfl, E_m0.one (i := 0) rfl, Or.inr ⟨rfl, (pz_X13_count_7 3 c1 c2 c3), rfl⟩⟩ dX13_count_127
        · refine lv_tableIn (tgt := 128) hx hb dX13_count_39 (by decide) (by decide) rfl (by decide) ?_
          refine lv_aload_n hx hb dX13_count_128 rfl (lv_at hl 0 rfl) ?_
          refine pq_get (own := RX13) (ci := 13) (C := RX13) (T := TX13) (N := 229) (k := 5) (v := .int 0) hx hb hpp pi13 rfl hown hG hW 0 rfl E_m0 5 rfl (by decide) pp78 dX13_count_129 ?_
          exact pq_iret hx hb hr hlocks rfl hW ⟨F_m0, 0, rfl, E_m0.one (i := 0) rfl, Or.inr ⟨rfl, (pz_X13_count_8 4 c1 c2 c3), rfl⟩⟩ dX13_count_132
        · refine lv_tableIn (tgt := 133) hx hb dX13_count_39 (by decide) (by decide) rfl (by decide) ?_
          refine lv_aload_n hx hb dX13_count_133 rfl (lv_at hl 0 rfl) ?_
          refine pq_get (own := RX13) (ci := 13) (C := RX13) (T := TX13) (N := 229) (k := 179) (v := .int 0) hx hb hpp pi13 rfl hown hG hW 0 rfl E_m0 34 rfl (by decide) pp206 dX13_count_134 ?_
          exact pq_iret hx hb hr hlocks rfl hW ⟨F_m0, 0, rfl, E_m0.one (i := 0) rfl, Or.inr ⟨rfl, (pz_X13_count_9 5 c1 c2 c3), rfl⟩⟩ dX13_count_137
        · refine lv_tableIn (tgt := 138) hx hb dX13_count_39 (by decide) (by decide) rfl (by decide) ?_
          refine lv_aload_n hx hb dX13_count_138 rfl (lv_at hl 0 rfl) ?_
          refine pq_get (own := RX13) (ci := 13) (C := RX13) (T := TX13) (N := 229) (k := 180) (v := .int 0) hx hb hpp pi13 rfl hown hG hW 0 rfl E_m0 35 rfl (by decide) pp207 dX13_count_139 ?_
          exact pq_iret hx hb hr hlocks rfl hW ⟨F_m0, 0, rfl, E_m0.one (i := 0) rfl, Or.inr ⟨rfl, (pz_X13_count_10 6 c1 c2 c3), rfl⟩⟩ dX13_count_142
        · refine lv_tableIn (tgt := 143) hx hb dX13_count_39 (by decide) (by decide) rfl (by decide) ?_
          refine lv_aload_n hx hb dX13_count_143 rfl (lv_at hl 0 rfl) ?_
          refine pq_get (own := RX13) (ci := 13) (C := RX13) (T := TX13) (N := 229) (k := 206) (v := .int 0) hx hb hpp pi13 rfl hown hG hW 0 rfl E_m0 41 rfl (by decide) pp208 dX13_count_144 ?_
          exact pq_iret hx hb hr hlocks rfl hW ⟨F_m0, 0, rfl, E_m0.one (i := 0) rfl, Or.inr ⟨rfl, (pz_X13_count_11 7 c1 c2 c3), rfl⟩⟩ dX13_count_147
      · refine lv_iload_n hx hb dX13_count_21 rfl (lv_at hl 1 rfl) ?_
        refine lv_if_lt (tgt := 33) hx hb dX13_count_22 (by decide) (fun c4 => ?_) (fun c4 => ?_)
        · refine lv_aload_n hx hb dX13_count_33 rfl (lv_at hl 0 rfl) ?_
          refine pq_calli hW [0] [] (by decide) rfl rfl (fun f9 hw9 hC9 => va_runV (C := RX13) (As := []) (rest := []) ⟨hx, hb, hml, hown, hts⟩ (c_X13_bad l D cy _ L f9 m0 F_m0 hC9 E_m0) (cwV 0 hts (pp_gV pp24 pp23 pp25 pp26 pp20) rfl rfl rfl pd_X13_bad ⟨Nat.le_of_ble_eq_true rfl, Nat.le_of_ble_eq_true rfl⟩) (pq_preV hG hw9 hC9 (j := 0) rfl rfl) rfl rfl hl.1 rfl (lv_room (Nat.le_of_ble_eq_true rfl)) dX13_count_34 ⟨Nat.le_of_ble_eq_true rfl, Nat.le_of_ble_eq_true rfl⟩) (fun r cs1 H locs hP hW => ?_)
          obtain ⟨F_m0, rfl, rfl, E_m0⟩ := hP
          have hW : pq_W D _ s.heap L f _ [(m0, .inr (13, F_m0))] H locs := hW
          exact pq_iret hx hb hr hlocks rfl hW ⟨F_m0, 1, rfl, E_m0.one (i := 0) rfl, Or.inl ⟨rfl, (pz_X13_count_12 n1 n2 c1 c2 c3 c4)⟩⟩ dX13_count_37
        · refine lv_iload_n hx hb dX13_count_25 rfl (lv_at hl 1 rfl) ?_
          refine lv_aload_n hx hb dX13_count_26 rfl (lv_at hl 0 rfl) ?_
          refine pq_get (own := RX13) (ci := 13) (C := RX13) (T := TX13) (N := 229) (k := 1) (v := .int 0) hx hb hpp pi13 rfl hown hG hW 0 rfl E_m0 1 rfl (by decide) pp74 dX13_count_27 ?_
          refine lv_icmp_lt (tgt := 38) hx hb dX13_count_30 (by decide) (fun c5 => (pz_X13_count_13 n1 n2 c1 c2 c3 c4 c5).elim) (fun _ => ?_)
          refine lv_aload_n hx hb dX13_count_33 rfl (lv_at hl 0 rfl) ?_
          refine pq_calli hW [0] [] (by decide) rfl rfl (fun f9 hw9 hC9 => va_runV (C := RX13) (As := []) (rest := []) ⟨hx, hb, hml, hown, hts⟩ (c_X13_bad l D cy _ L f9 m0 F_m0 hC9 E_m0) (cwV 0 hts (pp_gV pp24 pp23 pp25 pp26 pp20) rfl rfl rfl pd_X13_bad ⟨Nat.le_of_ble_eq_true rfl, Nat.le_of_ble_eq_true rfl⟩) (pq_preV hG hw9 hC9 (j := 0) rfl rfl) rfl rfl hl.1 rfl (lv_room (Nat.le_of_ble_eq_true rfl)) dX13_count_34 ⟨Nat.le_of_ble_eq_true rfl, Nat.le_of_ble_eq_true rfl⟩) (fun r cs1 H locs hP hW => ?_)
          obtain ⟨F_m0, rfl, rfl, E_m0⟩ := hP
          have hW : pq_W D _ s.heap L f _ [(m0, .inr (13, F_m0))] H locs := hW
          exact pq_iret hx hb hr hlocks rfl hW ⟨F_m0, 1, rfl, E_m0.one (i := 0) rfl, Or.inl ⟨rfl, (pz_X13_count_14 n1 n2 c1 c2 c3 c4)⟩⟩ dX13_count_37
theorem pz_X13_noTongue_1 (n1 : Int32) (c1 : ¬ n1 < 0) (c2 : n1 < 0) : False := by
  have k0 : (0 : Int32).toInt = 0 := by decide
  simp only [Int32.lt_iff_toInt_lt, Int32.le_iff_toInt_le, ← Int32.toInt_inj] at c1 c2 ⊢
  omega
set_option maxHeartbeats 4000000 in
set_option maxRecDepth 100000 in
/-- TongueHouseModel.noTongue on a new object -/
theorem c_X13_noTongue (l : Launch) (D : va_G) (cy : Nat → ClassId) (sz : Nat) (L : List Nat) (f : Nat → va_E) {w10 w13 w14 w15 w16 w17 w18 w19 w56 w59 w115 : Nat} (m0 : Nat) (F_m0 : List Value) (n1 : Int32) (hC : pq_C L f [(m0, .inr (13, F_m0))]) (E_m0 : pq_E 229 F_m0 [(0, .int 0), (1, .int 0), (2, .int 0), (3, .int 0), (4, .int 0), (5, .int 0), (6, .int (-1)), (16, .ref w10), (19, .ref w13), (20, .ref w14), (21, .ref w15), (22, .ref w16), (23, .ref w17), (24, .ref w18), (25, .ref w19), (42, .int 0), (59, .int 0), (64, .int 0), (65, .ref w56), (68, .int 0), (69, .int 0), (70, .int 0), (71, .int 0), (72, .int 0), (73, .int 0), (74, .int 0), (75, .long 0), (76, .int 0), (79, .int 0), (97, .ref w59), (99, .int 0), (100, .int 0), (132, .int 0), (136, .int 0), (179, .int 0), (180, .int 0), (181, .long 0), (186, .int 0), (188, .int 0), (190, .ref w115), (201, .int 0), (206, .int 0), (211, .int 0)]) : Met l yX13_noTongue (Cond.code yX13_noTongue cX13_noTongue 2 (some .boolean) :: pp_ws) ({ frames := 0, cells := 0, slots := 0, locals := 0 }) (pw_Pc D cy [.ref m0, .int n1] sz L f) (pq_Qi D sz L f [m0] (fun r cs1 => (∃ (F_m0 : List Value), r = 1 ∧ cs1 = [(m0, .inr (13, F_m0))] ∧ pq_E 229 F_m0 [(0, .int 1), (1, .int 0), (2, .int 0), (3, .int 0), (4, .int 0), (5, .int 0), (6, .int (-1)), (16, .ref w10), (19, .ref w13), (20, .ref w14), (21, .ref w15), (22, .ref w16), (23, .ref w17), (24, .ref w18), (25, .ref w19), (42, .int 0), (59, .int 0), (64, .int 0), (65, .ref w56), (68, .int 0), (69, .int 0), (70, .int 0), (71, .int 0), (72, .int 0), (73, .int 0), (74, .int 0), (75, .long 0), (76, .int 0), (79, .int 0), (97, .ref w59), (99, .int 0), (100, .int 0), (132, .int 0), (136, .int 0), (179, .int 0), (180, .int 0), (181, .long 0), (186, .int 0), (188, .int 0), (190, .ref w115), (201, .int 0), (206, .int 0), (211, .int 0)]))) 0 0 (pw_A L f sz) := by
  refine Met.ofW (cc := cX13_noTongue) (maxL := 2) (ret := (some .boolean)) (by decide) rfl ?_
  intro p e s m args below meth c s₁ B hml hv
  obtain ⟨rfl, hsz, hG, hP, hD0⟩ := hv
  have hx := B.exec
  have hb := B.bytes
  have hr := B.returns
  have hts := atoms_spec (ws := Cond.code yX13_noTongue cX13_noTongue 2 (some .boolean) :: pp_ws) B.pre
  have hpp := fun (w : Cond) (h : w ∈ pp_ws) => hts w (List.mem_cons_of_mem _ h)
  have hown : s.vm.findClass RX13 = some m.cls := findClass_of_methodNamed B.named
  have hlocks := B.notSynchronized
  have hw := pw_start (cy := cy) hsz hP hD0
  have hW := pq_start (as := [m0]) hw hC rfl
  have hl := lv_entry ([.ref m0, .int n1]) (n := 2) (Nat.le_of_ble_eq_true rfl)
  rw [lg_entry_eq]
  generalize (lg_sl ([.ref m0, .int n1]) ++ List.replicate (2 - (lg_sl ([.ref m0, .int n1])).length) Slot.unset).toArray = ls at hl ⊢
  have hl : lv_has ls 2 [(0, .ref m0), (1, .int n1)] := hl
  refine lv_aload_n hx hb dX13_noTongue_0 rfl (lv_at hl 0 rfl) ?_
  refine lv_iload_n hx hb dX13_noTongue_1 rfl (lv_at hl 1 rfl) ?_
  refine lv_if_lt (tgt := 13) hx hb dX13_noTongue_2 (by decide) (fun c1 => ?_) (fun c1 => ?_)
  · refine lv_iconst (v := 1) hx hb dX13_noTongue_13 (by decide) ?_
    refine lv_goto (tgt := 18) hx hb dX13_noTongue_14 (by decide) ?_
    refine pq_put (own := RX13) (ci := 13) (C := RX13) (T := TX13) (N := 229) (kv' := [(0, .int 1), (1, .int 0), (2, .int 0), (3, .int 0), (4, .int 0), (5, .int 0), (6, .int (-1)), (16, .ref w10), (19, .ref w13), (20, .ref w14), (21, .ref w15), (22, .ref w16), (23, .ref w17), (24, .ref w18), (25, .ref w19), (42, .int 0), (59, .int 0), (64, .int 0), (65, .ref w56), (68, .int 0), (69, .int 0), (70, .int 0), (71, .int 0), (72, .int 0), (73, .int 0), (74, .int 0), (75, .long 0), (76, .int 0), (79, .int 0), (97, .ref w59), (99, .int 0), (100, .int 0), (132, .int 0), (136, .int 0), (179, .int 0), (180, .int 0), (181, .long 0), (186, .int 0), (188, .int 0), (190, .ref w115), (201, .int 0), (206, .int 0), (211, .int 0)]) hx hb hpp pi13 tyX13 tyX13_ok nmX13 rfl hown hG hW 0 rfl E_m0 0 (by decide) rfl rfl rfl rfl pp13 dX13_noTongue_18 (fun F_m0 H locs hW E_m0 => ?_)
    have hW : pq_W D _ s.heap L f _ [(m0, .inr (13, F_m0))] H locs := hW
    refine lv_aload_n hx hb dX13_noTongue_21 rfl (lv_at hl 0 rfl) ?_
    refine pq_get (own := RX13) (ci := 13) (C := RX13) (T := TX13) (N := 229) (k := 0) (v := .int 1) hx hb hpp pi13 rfl hown hG hW 0 rfl E_m0 0 rfl (by decide) pp13 dX13_noTongue_22 ?_
    refine lv_if_eq (tgt := 32) hx hb dX13_noTongue_25 (by decide) (fun c9 => absurd c9 (by decide)) (fun _ => ?_)
    refine lv_iconst (v := 1) hx hb dX13_noTongue_28 (by decide) ?_
    refine lv_goto (tgt := 33) hx hb dX13_noTongue_29 (by decide) ?_
    exact pq_iret hx hb hr hlocks rfl hW ⟨_, rfl, rfl, E_m0⟩ dX13_noTongue_33
  · refine lv_iload_n hx hb dX13_noTongue_5 rfl (lv_at hl 1 rfl) ?_
    refine lv_aload_n hx hb dX13_noTongue_6 rfl (lv_at hl 0 rfl) ?_
    refine pq_get (own := RX13) (ci := 13) (C := RX13) (T := TX13) (N := 229) (k := 1) (v := .int 0) hx hb hpp pi13 rfl hown hG hW 0 rfl E_m0 1 rfl (by decide) pp74 dX13_noTongue_7 ?_
    refine lv_icmp_lt (tgt := 17) hx hb dX13_noTongue_10 (by decide) (fun c2 => (pz_X13_noTongue_1 n1 c1 c2).elim) (fun _ => ?_)
    refine lv_iconst (v := 1) hx hb dX13_noTongue_13 (by decide) ?_
    refine lv_goto (tgt := 18) hx hb dX13_noTongue_14 (by decide) ?_
    refine pq_put (own := RX13) (ci := 13) (C := RX13) (T := TX13) (N := 229) (kv' := [(0, .int 1), (1, .int 0), (2, .int 0), (3, .int 0), (4, .int 0), (5, .int 0), (6, .int (-1)), (16, .ref w10), (19, .ref w13), (20, .ref w14), (21, .ref w15), (22, .ref w16), (23, .ref w17), (24, .ref w18), (25, .ref w19), (42, .int 0), (59, .int 0), (64, .int 0), (65, .ref w56), (68, .int 0), (69, .int 0), (70, .int 0), (71, .int 0), (72, .int 0), (73, .int 0), (74, .int 0), (75, .long 0), (76, .int 0), (79, .int 0), (97, .ref w59), (99, .int 0), (100, .int 0), (132, .int 0), (136, .int 0), (179, .int 0), (180, .int 0), (181, .long 0), (186, .int 0), (188, .int 0), (190, .ref w115), (201, .int 0), (206, .int 0), (211, .int 0)]) hx hb hpp pi13 tyX13 tyX13_ok nmX13 rfl hown hG hW 0 rfl E_m0 0 (by decide) rfl rfl rfl rfl pp13 dX13_noTongue_18 (fun F_m0 H locs hW E_m0 => ?_)
    have hW : pq_W D _ s.heap L f _ [(m0, .inr (13, F_m0))] H locs := hW
    refine lv_aload_n hx hb dX13_noTongue_21 rfl (lv_at hl 0 rfl) ?_
    refine pq_get (own := RX13) (ci := 13) (C := RX13) (T := TX13) (N := 229) (k := 0) (v := .int 1) hx hb hpp pi13 rfl hown hG hW 0 rfl E_m0 0 rfl (by decide) pp13 dX13_noTongue_22 ?_
    refine lv_if_eq (tgt := 32) hx hb dX13_noTongue_25 (by decide) (fun c9 => absurd c9 (by decide)) (fun _ => ?_)
    refine lv_iconst (v := 1) hx hb dX13_noTongue_28 (by decide) ?_
    refine lv_goto (tgt := 33) hx hb dX13_noTongue_29 (by decide) ?_
    exact pq_iret hx hb hr hlocks rfl hW ⟨_, rfl, rfl, E_m0⟩ dX13_noTongue_33
