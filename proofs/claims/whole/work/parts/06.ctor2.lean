theorem bl_X3 : ∀ j, j < 16 → defaultValue (tyX3 j) = vp_V [.int 0, .int 0, .int 0, .int 0, .int 0, .null, .null, .null, .int 0, .null, .null, .null, .int 0, .null, .int 0, .null] j := by decide +kernel
set_option maxHeartbeats 4000000 in
set_option maxRecDepth 100000 in
/-- TongueHouse$Lin(..): 8 cells come -/
theorem c_X3_init (l : Launch) (D : va_G) (cy : Nat → ClassId) (h0 sz : Nat) (L : List Nat) (f : Nat → va_E) (ha : h0 ∈ L) (he : f h0 = .inr (3, [.int 0, .int 0, .int 0, .int 0, .int 0, .null, .null, .null, .int 0, .null, .null, .null, .int 0, .null, .int 0, .null])) : Met l yX3_init wsX3_init ({ frames := 1, cells := 8, slots := 66, locals := 12 }) (pw_Pc D cy [.ref h0] sz L f) (va_Qv (fun u : List Nat × (Nat → va_E) => ∃ q1 q2 q3 q4 q5 q6 q7 q8 : Nat, pw_N h0 3 L f u.1 u.2 [.int 0, .int 0, .int 0, .int 0, .int 0, .ref q1, .ref q2, .ref q3, .int 0, .ref q4, .ref q5, .ref q6, .int 0, .ref q7, .int 0, .ref q8] [(q1, .inl (cy 1, 6, .inl (fun _ => 0))), (q2, .inl (cy 1, 6, .inl (fun _ => 0))), (q3, .inl (cy 1, 6, .inl (fun _ => 0))), (q4, .inl (cy 1, 4, .inl (fun _ => 0))), (q5, .inl (cy 1, 4, .inl (fun _ => 0))), (q6, .inl (cy 1, 4, .inl (fun _ => 0))), (q7, .inl (cy 1, 18, .inl (fun _ => 0))), (q8, .inl (cy 1, 18, .inl (fun _ => 0)))]) (pw_B D (pw_A L f sz)) (pw_A L f sz)) 8 (66) (pw_A L f sz) := by
  refine Met.ofW (cc := cX3_init) (maxL := 1) (ret := none) (by decide) rfl ?_
  intro p e s m args below meth c s₁ B hml hv
  obtain ⟨rfl, hsz, hG, hP, hD0⟩ := hv
  have hx := B.exec
  have hb := B.bytes
  have hr := B.returns
  have hts := atoms_spec (ws := wsX3_init) B.pre
  have hown : s.vm.findClass RX3 = some m.cls := findClass_of_methodNamed B.named
  have hlocks := B.notSynchronized
  have hin : meth.name = "<init>" := (name_of_methodNamed B.named B.method).1
  have hw := pw_start (cy := cy) hsz hP hD0
  have hN := pw_N.rf ha he
  have hl := lv_entry ([.ref h0]) (n := 1) (Nat.le_of_ble_eq_true rfl)
  rw [lg_entry_eq]
  generalize (lg_sl ([.ref h0]) ++ List.replicate (1 - (lg_sl ([.ref h0])).length) Slot.unset).toArray = ls at hl ⊢
  have hl : lv_has ls 1 [(0, .ref h0)] := hl
  have hi3 : ∀ w ∈ u_ws RX3 TX3 16, w ∈ wsX3_init := (fun _ h => List.mem_cons_of_mem _ (List.mem_append_right _ h))
  refine lv_aload_n hx hb dX3_init_0 rfl (lv_at hl 0 rfl) ?_
  refine W.objInit hx hb hown (hts (.methodLink RX3 3 objectInit) (by decide +kernel)) (hts (.instanceMethod objectInit) (by decide +kernel)) (hts _ (show Cond.code objectInit ⟨#[0xb1]⟩ 1 none ∈ wsX3_init by decide +kernel)) rfl (by rw [hml]; exact hl.1) rfl dX3_init_1 (Nat.le_of_ble_eq_true rfl) (Nat.le_of_ble_eq_true rfl) ?_
  refine W.eq (g2 := F0 m 4 ls []) rfl ?_
  refine lv_aload_n hx hb dX3_init_4 rfl (lv_at hl 0 rfl) ?_
  refine lv_bipush (v := 6) hx hb dX3_init_5 (by decide) ?_
  refine pw_cnewa (atype := .int) (t0 := 1) (cA := cy 1) (ty := .int) (N' := 6) (a0 := (6, .inl (fun _ => 0))) hx hb (hts (.arrayClass .int) (by decide +kernel)) rfl hG rfl (fun _ h => h) hw hN (fun _ => rfl) (by decide) (by decide) (Nat.le_of_ble_eq_true rfl) (Nat.le_of_ble_eq_true rfl) (Nat.le_of_ble_eq_true rfl) dX3_init_7 (fun q1 L1 f1 H hw hN => ?_)
  refine pw_cputF (ci := 3) (v := .ref q1) (C := RX3) (T := TX3) (N := 16) hx hb hts hi3 tyX3 tyX3_ok nmX3 hown hG hw hN rfl 5 (by decide) (hts (.fieldLink RX3 9 "TongueHouse$Lin" "arg" "[I") (by decide +kernel)) (fun _ h9 => h9) rfl hin rfl rfl rfl (Nat.le_of_ble_eq_true rfl) dX3_init_9 (fun f1 H locs hw hN => ?_)
  refine lv_aload_n hx hb dX3_init_12 rfl (lv_at hl 0 rfl) ?_
  refine lv_bipush (v := 6) hx hb dX3_init_13 (by decide) ?_
  refine pw_cnewa (atype := .int) (t0 := 1) (cA := cy 1) (ty := .int) (N' := 6) (a0 := (6, .inl (fun _ => 0))) hx hb (hts (.arrayClass .int) (by decide +kernel)) rfl hG rfl (fun _ h => h) hw hN (fun _ => rfl) (by decide) (by decide) (Nat.le_of_ble_eq_true rfl) (Nat.le_of_ble_eq_true rfl) (Nat.le_of_ble_eq_true rfl) dX3_init_15 (fun q2 L1 f1 H hw hN => ?_)
  refine pw_cputF (ci := 3) (v := .ref q2) (C := RX3) (T := TX3) (N := 16) hx hb hts hi3 tyX3 tyX3_ok nmX3 hown hG hw hN rfl 6 (by decide) (hts (.fieldLink RX3 15 "TongueHouse$Lin" "from" "[I") (by decide +kernel)) (fun _ h9 => h9) rfl hin rfl rfl rfl (Nat.le_of_ble_eq_true rfl) dX3_init_17 (fun f1 H locs hw hN => ?_)
  refine lv_aload_n hx hb dX3_init_20 rfl (lv_at hl 0 rfl) ?_
  refine lv_bipush (v := 6) hx hb dX3_init_21 (by decide) ?_
  refine pw_cnewa (atype := .int) (t0 := 1) (cA := cy 1) (ty := .int) (N' := 6) (a0 := (6, .inl (fun _ => 0))) hx hb (hts (.arrayClass .int) (by decide +kernel)) rfl hG rfl (fun _ h => h) hw hN (fun _ => rfl) (by decide) (by decide) (Nat.le_of_ble_eq_true rfl) (Nat.le_of_ble_eq_true rfl) (Nat.le_of_ble_eq_true rfl) dX3_init_23 (fun q3 L1 f1 H hw hN => ?_)
  refine pw_cputF (ci := 3) (v := .ref q3) (C := RX3) (T := TX3) (N := 16) hx hb hts hi3 tyX3 tyX3_ok nmX3 hown hG hw hN rfl 7 (by decide) (hts (.fieldLink RX3 18 "TongueHouse$Lin" "length" "[I") (by decide +kernel)) (fun _ h9 => h9) rfl hin rfl rfl rfl (Nat.le_of_ble_eq_true rfl) dX3_init_25 (fun f1 H locs hw hN => ?_)
  refine lv_aload_n hx hb dX3_init_28 rfl (lv_at hl 0 rfl) ?_
  refine lv_iconst (v := 4) hx hb dX3_init_29 (by decide) ?_
  refine pw_cnewa (atype := .int) (t0 := 1) (cA := cy 1) (ty := .int) (N' := 4) (a0 := (4, .inl (fun _ => 0))) hx hb (hts (.arrayClass .int) (by decide +kernel)) rfl hG rfl (fun _ h => h) hw hN (fun _ => rfl) (by decide) (by decide) (Nat.le_of_ble_eq_true rfl) (Nat.le_of_ble_eq_true rfl) (Nat.le_of_ble_eq_true rfl) dX3_init_30 (fun q4 L1 f1 H hw hN => ?_)
  refine pw_cputF (ci := 3) (v := .ref q4) (C := RX3) (T := TX3) (N := 16) hx hb hts hi3 tyX3 tyX3_ok nmX3 hown hG hw hN rfl 9 (by decide) (hts (.fieldLink RX3 21 "TongueHouse$Lin" "slotArg" "[I") (by decide +kernel)) (fun _ h9 => h9) rfl hin rfl rfl rfl (Nat.le_of_ble_eq_true rfl) dX3_init_32 (fun f1 H locs hw hN => ?_)
  refine lv_aload_n hx hb dX3_init_35 rfl (lv_at hl 0 rfl) ?_
  refine lv_iconst (v := 4) hx hb dX3_init_36 (by decide) ?_
  refine pw_cnewa (atype := .int) (t0 := 1) (cA := cy 1) (ty := .int) (N' := 4) (a0 := (4, .inl (fun _ => 0))) hx hb (hts (.arrayClass .int) (by decide +kernel)) rfl hG rfl (fun _ h => h) hw hN (fun _ => rfl) (by decide) (by decide) (Nat.le_of_ble_eq_true rfl) (Nat.le_of_ble_eq_true rfl) (Nat.le_of_ble_eq_true rfl) dX3_init_37 (fun q5 L1 f1 H hw hN => ?_)
  refine pw_cputF (ci := 3) (v := .ref q5) (C := RX3) (T := TX3) (N := 16) hx hb hts hi3 tyX3 tyX3_ok nmX3 hown hG hw hN rfl 10 (by decide) (hts (.fieldLink RX3 24 "TongueHouse$Lin" "slotNeed" "[I") (by decide +kernel)) (fun _ h9 => h9) rfl hin rfl rfl rfl (Nat.le_of_ble_eq_true rfl) dX3_init_39 (fun f1 H locs hw hN => ?_)
  refine lv_aload_n hx hb dX3_init_42 rfl (lv_at hl 0 rfl) ?_
  refine lv_iconst (v := 4) hx hb dX3_init_43 (by decide) ?_
  refine pw_cnewa (atype := .int) (t0 := 1) (cA := cy 1) (ty := .int) (N' := 4) (a0 := (4, .inl (fun _ => 0))) hx hb (hts (.arrayClass .int) (by decide +kernel)) rfl hG rfl (fun _ h => h) hw hN (fun _ => rfl) (by decide) (by decide) (Nat.le_of_ble_eq_true rfl) (Nat.le_of_ble_eq_true rfl) (Nat.le_of_ble_eq_true rfl) dX3_init_44 (fun q6 L1 f1 H hw hN => ?_)
  refine pw_cputF (ci := 3) (v := .ref q6) (C := RX3) (T := TX3) (N := 16) hx hb hts hi3 tyX3 tyX3_ok nmX3 hown hG hw hN rfl 11 (by decide) (hts (.fieldLink RX3 27 "TongueHouse$Lin" "slotOf" "[I") (by decide +kernel)) (fun _ h9 => h9) rfl hin rfl rfl rfl (Nat.le_of_ble_eq_true rfl) dX3_init_46 (fun f1 H locs hw hN => ?_)
  refine lv_aload_n hx hb dX3_init_49 rfl (lv_at hl 0 rfl) ?_
  refine lv_bipush (v := 18) hx hb dX3_init_50 (by decide) ?_
  refine pw_cnewa (atype := .int) (t0 := 1) (cA := cy 1) (ty := .int) (N' := 18) (a0 := (18, .inl (fun _ => 0))) hx hb (hts (.arrayClass .int) (by decide +kernel)) rfl hG rfl (fun _ h => h) hw hN (fun _ => rfl) (by decide) (by decide) (Nat.le_of_ble_eq_true rfl) (Nat.le_of_ble_eq_true rfl) (Nat.le_of_ble_eq_true rfl) dX3_init_52 (fun q7 L1 f1 H hw hN => ?_)
  refine pw_cputF (ci := 3) (v := .ref q7) (C := RX3) (T := TX3) (N := 16) hx hb hts hi3 tyX3 tyX3_ok nmX3 hown hG hw hN rfl 13 (by decide) (hts (.fieldLink RX3 30 "TongueHouse$Lin" "agree" "[I") (by decide +kernel)) (fun _ h9 => h9) rfl hin rfl rfl rfl (Nat.le_of_ble_eq_true rfl) dX3_init_54 (fun f1 H locs hw hN => ?_)
  refine lv_aload_n hx hb dX3_init_57 rfl (lv_at hl 0 rfl) ?_
  refine lv_bipush (v := 18) hx hb dX3_init_58 (by decide) ?_
  refine pw_cnewa (atype := .int) (t0 := 1) (cA := cy 1) (ty := .int) (N' := 18) (a0 := (18, .inl (fun _ => 0))) hx hb (hts (.arrayClass .int) (by decide +kernel)) rfl hG rfl (fun _ h => h) hw hN (fun _ => rfl) (by decide) (by decide) (Nat.le_of_ble_eq_true rfl) (Nat.le_of_ble_eq_true rfl) (Nat.le_of_ble_eq_true rfl) dX3_init_60 (fun q8 L1 f1 H hw hN => ?_)
  refine pw_cputF (ci := 3) (v := .ref q8) (C := RX3) (T := TX3) (N := 16) hx hb hts hi3 tyX3 tyX3_ok nmX3 hown hG hw hN rfl 15 (by decide) (hts (.fieldLink RX3 33 "TongueHouse$Lin" "give" "[I") (by decide +kernel)) (fun _ h9 => h9) rfl hin rfl rfl rfl (Nat.le_of_ble_eq_true rfl) dX3_init_62 (fun f1 H locs hw hN => ?_)
  refine W.widen (k := 8) (n := 66) (Nat.le_of_ble_eq_true rfl) (Nat.le_of_ble_eq_true rfl) ?_
  exact pw_vret hx hb hr hlocks hsz hw ⟨q1, q2, q3, q4, q5, q6, q7, q8, hN⟩ dX3_init_65
theorem bl_X6 : ∀ j, j < 19 → defaultValue (tyX6 j) = vp_V [.null, .null, .null, .int 0, .int 0, .int 0, .int 0, .int 0, .int 0, .null, .null, .null, .int 0, .null, .null, .int 0, .null, .null, .null] j := by decide +kernel
set_option maxHeartbeats 4000000 in
set_option maxRecDepth 100000 in
/-- TongueHouse$Reader(..): 8 cells come -/
theorem c_X6_init (l : Launch) (D : va_G) (cy : Nat → ClassId) (h0 sz : Nat) (L : List Nat) (f : Nat → va_E) (p1 : Nat) (p2 : Nat) (ha : h0 ∈ L) (he : f h0 = .inr (6, [.null, .null, .null, .int 0, .int 0, .int 0, .int 0, .int 0, .int 0, .null, .null, .null, .int 0, .null, .null, .int 0, .null, .null, .null])) : Met l yX6_init wsX6_init ({ frames := 1, cells := 8, slots := 344, locals := 12 }) (pw_Pc D cy [.ref h0, .ref p1, .ref p2] sz L f) (va_Qv (fun u : List Nat × (Nat → va_E) => ∃ q1 q2 q3 q4 q5 q6 q7 q8 : Nat, pw_N h0 6 L f u.1 u.2 [.ref p1, .ref p2, .null, .int 0, .int 0, .int 0, .int 0, .int 0, .int 0, .ref q1, .ref q2, .ref q3, .int 0, .ref q4, .ref q5, .int 0, .ref q6, .ref q7, .ref q8] [(q1, .inl (cy 1, 72, .inl (fun _ => 0))), (q2, .inl (cy 1, 25, .inl (fun _ => 0))), (q3, .inl (cy 2, 6, .inr (.inl (fun _ => 0)))), (q4, .inl (cy 1, 40, .inl (fun _ => 0))), (q5, .inl (cy 2, 40, .inr (.inl (fun _ => 0)))), (q6, .inl (cy 2, 41, .inr (.inl (fun _ => 0)))), (q7, .inl (cy 1, 60, .inl (fun _ => 0))), (q8, .inl (cy 1, 60, .inl (fun _ => 0)))]) (pw_B D (pw_A L f sz)) (pw_A L f sz)) 8 (344) (pw_A L f sz) := by
  refine Met.ofW (cc := cX6_init) (maxL := 3) (ret := none) (by decide) rfl ?_
  intro p e s m args below meth c s₁ B hml hv
  obtain ⟨rfl, hsz, hG, hP, hD0⟩ := hv
  have hx := B.exec
  have hb := B.bytes
  have hr := B.returns
  have hts := atoms_spec (ws := wsX6_init) B.pre
  have hown : s.vm.findClass RX6 = some m.cls := findClass_of_methodNamed B.named
  have hlocks := B.notSynchronized
  have hin : meth.name = "<init>" := (name_of_methodNamed B.named B.method).1
  have hw := pw_start (cy := cy) hsz hP hD0
  have hN := pw_N.rf ha he
  have hl := lv_entry ([.ref h0, .ref p1, .ref p2]) (n := 3) (Nat.le_of_ble_eq_true rfl)
  rw [lg_entry_eq]
  generalize (lg_sl ([.ref h0, .ref p1, .ref p2]) ++ List.replicate (3 - (lg_sl ([.ref h0, .ref p1, .ref p2])).length) Slot.unset).toArray = ls at hl ⊢
  have hl : lv_has ls 3 [(0, .ref h0), (1, .ref p1), (2, .ref p2)] := hl
  have hi6 : ∀ w ∈ u_ws RX6 TX6 19, w ∈ wsX6_init := (fun _ h => List.mem_cons_of_mem _ (List.mem_append_right _ h))
  refine lv_aload_n hx hb dX6_init_0 rfl (lv_at hl 0 rfl) ?_
  refine W.objInit hx hb hown (hts (.methodLink RX6 3 objectInit) (by decide +kernel)) (hts (.instanceMethod objectInit) (by decide +kernel)) (hts _ (show Cond.code objectInit ⟨#[0xb1]⟩ 1 none ∈ wsX6_init by decide +kernel)) rfl (by rw [hml]; exact hl.1) rfl dX6_init_1 (Nat.le_of_ble_eq_true rfl) (Nat.le_of_ble_eq_true rfl) ?_
  refine W.eq (g2 := F0 m 4 ls []) rfl ?_
  refine lv_aload_n hx hb dX6_init_4 rfl (lv_at hl 0 rfl) ?_
  refine lv_bipush (v := 72) hx hb dX6_init_5 (by decide) ?_
  refine pw_cnewa (atype := .int) (t0 := 1) (cA := cy 1) (ty := .int) (N' := 72) (a0 := (72, .inl (fun _ => 0))) hx hb (hts (.arrayClass .int) (by decide +kernel)) rfl hG rfl (fun _ h => h) hw hN (fun _ => rfl) (by decide) (by decide) (Nat.le_of_ble_eq_true rfl) (Nat.le_of_ble_eq_true rfl) (Nat.le_of_ble_eq_true rfl) dX6_init_7 (fun q1 L1 f1 H hw hN => ?_)
  refine pw_cputF (ci := 6) (v := .ref q1) (C := RX6) (T := TX6) (N := 19) hx hb hts hi6 tyX6 tyX6_ok nmX6 hown hG hw hN rfl 9 (by decide) (hts (.fieldLink RX6 11 "TongueHouse$Reader" "cell" "[I") (by decide +kernel)) (fun _ h9 => h9) rfl hin rfl rfl rfl (Nat.le_of_ble_eq_true rfl) dX6_init_9 (fun f1 H locs hw hN => ?_)
  refine lv_aload_n hx hb dX6_init_12 rfl (lv_at hl 0 rfl) ?_
  refine lv_bipush (v := 25) hx hb dX6_init_13 (by decide) ?_
  refine pw_cnewa (atype := .int) (t0 := 1) (cA := cy 1) (ty := .int) (N' := 25) (a0 := (25, .inl (fun _ => 0))) hx hb (hts (.arrayClass .int) (by decide +kernel)) rfl hG rfl (fun _ h => h) hw hN (fun _ => rfl) (by decide) (by decide) (Nat.le_of_ble_eq_true rfl) (Nat.le_of_ble_eq_true rfl) (Nat.le_of_ble_eq_true rfl) dX6_init_15 (fun q2 L1 f1 H hw hN => ?_)
  refine pw_cputF (ci := 6) (v := .ref q2) (C := RX6) (T := TX6) (N := 19) hx hb hts hi6 tyX6 tyX6_ok nmX6 hown hG hw hN rfl 10 (by decide) (hts (.fieldLink RX6 17 "TongueHouse$Reader" "row" "[I") (by decide +kernel)) (fun _ h9 => h9) rfl hin rfl rfl rfl (Nat.le_of_ble_eq_true rfl) dX6_init_17 (fun f1 H locs hw hN => ?_)
  refine lv_aload_n hx hb dX6_init_20 rfl (lv_at hl 0 rfl) ?_
  refine lv_bipush (v := 6) hx hb dX6_init_21 (by decide) ?_
  refine pw_cnewa (atype := .long) (t0 := 2) (cA := cy 2) (ty := .long) (N' := 6) (a0 := (6, .inr (.inl (fun _ => 0)))) hx hb (hts (.arrayClass .long) (by decide +kernel)) rfl hG rfl (fun _ h => h) hw hN (fun _ => rfl) (by decide) (by decide) (Nat.le_of_ble_eq_true rfl) (Nat.le_of_ble_eq_true rfl) (Nat.le_of_ble_eq_true rfl) dX6_init_23 (fun q3 L1 f1 H hw hN => ?_)
  refine pw_cputF (ci := 6) (v := .ref q3) (C := RX6) (T := TX6) (N := 19) hx hb hts hi6 tyX6 tyX6_ok nmX6 hown hG hw hN rfl 11 (by decide) (hts (.fieldLink RX6 20 "TongueHouse$Reader" "names" "[J") (by decide +kernel)) (fun _ h9 => h9) rfl hin rfl rfl rfl (Nat.le_of_ble_eq_true rfl) dX6_init_25 (fun f1 H locs hw hN => ?_)
  refine lv_aload_n hx hb dX6_init_28 rfl (lv_at hl 0 rfl) ?_
  refine lv_bipush (v := 40) hx hb dX6_init_29 (by decide) ?_
  refine pw_cnewa (atype := .int) (t0 := 1) (cA := cy 1) (ty := .int) (N' := 40) (a0 := (40, .inl (fun _ => 0))) hx hb (hts (.arrayClass .int) (by decide +kernel)) rfl hG rfl (fun _ h => h) hw hN (fun _ => rfl) (by decide) (by decide) (Nat.le_of_ble_eq_true rfl) (Nat.le_of_ble_eq_true rfl) (Nat.le_of_ble_eq_true rfl) dX6_init_31 (fun q4 L1 f1 H hw hN => ?_)
  refine pw_cputF (ci := 6) (v := .ref q4) (C := RX6) (T := TX6) (N := 19) hx hb hts hi6 tyX6 tyX6_ok nmX6 hown hG hw hN rfl 13 (by decide) (hts (.fieldLink RX6 24 "TongueHouse$Reader" "termOp" "[I") (by decide +kernel)) (fun _ h9 => h9) rfl hin rfl rfl rfl (Nat.le_of_ble_eq_true rfl) dX6_init_33 (fun f1 H locs hw hN => ?_)
  refine lv_aload_n hx hb dX6_init_36 rfl (lv_at hl 0 rfl) ?_
  refine lv_bipush (v := 40) hx hb dX6_init_37 (by decide) ?_
  refine pw_cnewa (atype := .long) (t0 := 2) (cA := cy 2) (ty := .long) (N' := 40) (a0 := (40, .inr (.inl (fun _ => 0)))) hx hb (hts (.arrayClass .long) (by decide +kernel)) rfl hG rfl (fun _ h => h) hw hN (fun _ => rfl) (by decide) (by decide) (Nat.le_of_ble_eq_true rfl) (Nat.le_of_ble_eq_true rfl) (Nat.le_of_ble_eq_true rfl) dX6_init_39 (fun q5 L1 f1 H hw hN => ?_)
  refine pw_cputF (ci := 6) (v := .ref q5) (C := RX6) (T := TX6) (N := 19) hx hb hts hi6 tyX6 tyX6_ok nmX6 hown hG hw hN rfl 14 (by decide) (hts (.fieldLink RX6 27 "TongueHouse$Reader" "termName" "[J") (by decide +kernel)) (fun _ h9 => h9) rfl hin rfl rfl rfl (Nat.le_of_ble_eq_true rfl) dX6_init_41 (fun f1 H locs hw hN => ?_)
  refine lv_aload_n hx hb dX6_init_44 rfl (lv_at hl 0 rfl) ?_
  refine lv_bipush (v := 41) hx hb dX6_init_45 (by decide) ?_
  refine pw_cnewa (atype := .long) (t0 := 2) (cA := cy 2) (ty := .long) (N' := 41) (a0 := (41, .inr (.inl (fun _ => 0)))) hx hb (hts (.arrayClass .long) (by decide +kernel)) rfl hG rfl (fun _ h => h) hw hN (fun _ => rfl) (by decide) (by decide) (Nat.le_of_ble_eq_true rfl) (Nat.le_of_ble_eq_true rfl) (Nat.le_of_ble_eq_true rfl) dX6_init_47 (fun q6 L1 f1 H hw hN => ?_)
  refine pw_cputF (ci := 6) (v := .ref q6) (C := RX6) (T := TX6) (N := 19) hx hb hts hi6 tyX6 tyX6_ok nmX6 hown hG hw hN rfl 16 (by decide) (hts (.fieldLink RX6 30 "TongueHouse$Reader" "binder" "[J") (by decide +kernel)) (fun _ h9 => h9) rfl hin rfl rfl rfl (Nat.le_of_ble_eq_true rfl) dX6_init_49 (fun f1 H locs hw hN => ?_)
  refine lv_aload_n hx hb dX6_init_52 rfl (lv_at hl 0 rfl) ?_
  refine lv_bipush (v := 60) hx hb dX6_init_53 (by decide) ?_
  refine pw_cnewa (atype := .int) (t0 := 1) (cA := cy 1) (ty := .int) (N' := 60) (a0 := (60, .inl (fun _ => 0))) hx hb (hts (.arrayClass .int) (by decide +kernel)) rfl hG rfl (fun _ h => h) hw hN (fun _ => rfl) (by decide) (by decide) (Nat.le_of_ble_eq_true rfl) (Nat.le_of_ble_eq_true rfl) (Nat.le_of_ble_eq_true rfl) dX6_init_55 (fun q7 L1 f1 H hw hN => ?_)
  refine pw_cputF (ci := 6) (v := .ref q7) (C := RX6) (T := TX6) (N := 19) hx hb hts hi6 tyX6 tyX6_ok nmX6 hown hG hw hN rfl 17 (by decide) (hts (.fieldLink RX6 33 "TongueHouse$Reader" "opened" "[I") (by decide +kernel)) (fun _ h9 => h9) rfl hin rfl rfl rfl (Nat.le_of_ble_eq_true rfl) dX6_init_57 (fun f1 H locs hw hN => ?_)
  refine lv_aload_n hx hb dX6_init_60 rfl (lv_at hl 0 rfl) ?_
  refine lv_bipush (v := 60) hx hb dX6_init_61 (by decide) ?_
  refine pw_cnewa (atype := .int) (t0 := 1) (cA := cy 1) (ty := .int) (N' := 60) (a0 := (60, .inl (fun _ => 0))) hx hb (hts (.arrayClass .int) (by decide +kernel)) rfl hG rfl (fun _ h => h) hw hN (fun _ => rfl) (by decide) (by decide) (Nat.le_of_ble_eq_true rfl) (Nat.le_of_ble_eq_true rfl) (Nat.le_of_ble_eq_true rfl) dX6_init_63 (fun q8 L1 f1 H hw hN => ?_)
  refine pw_cputF (ci := 6) (v := .ref q8) (C := RX6) (T := TX6) (N := 19) hx hb hts hi6 tyX6 tyX6_ok nmX6 hown hG hw hN rfl 18 (by decide) (hts (.fieldLink RX6 36 "TongueHouse$Reader" "seen" "[I") (by decide +kernel)) (fun _ h9 => h9) rfl hin rfl rfl rfl (Nat.le_of_ble_eq_true rfl) dX6_init_65 (fun f1 H locs hw hN => ?_)
  refine lv_aload_n hx hb dX6_init_68 rfl (lv_at hl 0 rfl) ?_
  refine lv_aload_n hx hb dX6_init_69 rfl (lv_at hl 1 rfl) ?_
  refine pw_cputF (ci := 6) (v := .ref p1) (C := RX6) (T := TX6) (N := 19) hx hb hts hi6 tyX6 tyX6_ok nmX6 hown hG hw hN rfl 0 (by decide) (hts (.fieldLink RX6 39 "TongueHouse$Reader" "store" "LTongueHouse$Store;") (by decide +kernel)) (fun _ h9 => h9) rfl hin rfl rfl rfl (Nat.le_of_ble_eq_true rfl) dX6_init_70 (fun f1 H locs hw hN => ?_)
  refine lv_aload_n hx hb dX6_init_73 rfl (lv_at hl 0 rfl) ?_
  refine lv_aload_n hx hb dX6_init_74 rfl (lv_at hl 2 rfl) ?_
  refine pw_cputF (ci := 6) (v := .ref p2) (C := RX6) (T := TX6) (N := 19) hx hb hts hi6 tyX6 tyX6_ok nmX6 hown hG hw hN rfl 1 (by decide) (hts (.fieldLink RX6 43 "TongueHouse$Reader" "tape" "LTongueHouse$Text;") (by decide +kernel)) (fun _ h9 => h9) rfl hin rfl rfl rfl (Nat.le_of_ble_eq_true rfl) dX6_init_75 (fun f1 H locs hw hN => ?_)
  refine W.widen (k := 8) (n := 344) (Nat.le_of_ble_eq_true rfl) (Nat.le_of_ble_eq_true rfl) ?_
  exact pw_vret hx hb hr hlocks hsz hw ⟨q1, q2, q3, q4, q5, q6, q7, q8, hN⟩ dX6_init_78
theorem bl_X0 : ∀ j, j < 22 → defaultValue (tyX0 j) = vp_V [.null, .null, .null, .int 0, .null, .null, .int 0, .null, .null, .null, .int 0, .int 0, .int 0, .null, .null, .null, .null, .int 0, .int 0, .null, .null, .null] j := by decide +kernel
set_option maxHeartbeats 4000000 in
set_option maxRecDepth 100000 in
/-- TongueHouse$Chart(..): 12 cells come -/
theorem c_X0_init (l : Launch) (D : va_G) (cy : Nat → ClassId) (h0 sz : Nat) (L : List Nat) (f : Nat → va_E) (p1 : Nat) (ha : h0 ∈ L) (he : f h0 = .inr (0, [.null, .null, .null, .int 0, .null, .null, .int 0, .null, .null, .null, .int 0, .int 0, .int 0, .null, .null, .null, .null, .int 0, .int 0, .null, .null, .null])) : Met l yX0_init wsX0_init ({ frames := 1, cells := 12, slots := 97293, locals := 12 }) (pw_Pc D cy [.ref h0, .ref p1] sz L f) (va_Qv (fun u : List Nat × (Nat → va_E) => ∃ q1 q2 q3 q4 q5 q6 q7 q8 q9 q10 q11 q12 : Nat, pw_N h0 0 L f u.1 u.2 [.ref p1, .ref q1, .ref q2, .int 0, .ref q3, .ref q4, .int 0, .ref q5, .ref q6, .ref q7, .int 0, .int 0, .int 0, .null, .null, .ref q8, .ref q9, .int 0, .int 0, .ref q10, .ref q11, .ref q12] [(q1, .inl (cy 1, 18432, .inl (fun _ => 0))), (q2, .inl (cy 1, 18432, .inl (fun _ => 0))), (q3, .inl (cy 1, 3000, .inl (fun _ => 0))), (q4, .inl (cy 1, 3000, .inl (fun _ => 0))), (q5, .inl (cy 1, 9000, .inl (fun _ => 0))), (q6, .inl (cy 1, 9000, .inl (fun _ => 0))), (q7, .inl (cy 1, 36000, .inl (fun _ => 0))), (q8, .inl (cy 1, 33, .inl (fun _ => 0))), (q9, .inl (cy 1, 384, .inl (fun _ => 0))), (q10, .inl (cy 1, 4, .inl (fun _ => 0))), (q11, .inl (cy 1, 4, .inl (fun _ => 0))), (q12, .inl (cy 1, 4, .inl (fun _ => 0)))]) (pw_B D (pw_A L f sz)) (pw_A L f sz)) 12 (97293) (pw_A L f sz) := by
  refine Met.ofW (cc := cX0_init) (maxL := 2) (ret := none) (by decide) rfl ?_
  intro p e s m args below meth c s₁ B hml hv
  obtain ⟨rfl, hsz, hG, hP, hD0⟩ := hv
  have hx := B.exec
  have hb := B.bytes
  have hr := B.returns
  have hts := atoms_spec (ws := wsX0_init) B.pre
  have hown : s.vm.findClass RX0 = some m.cls := findClass_of_methodNamed B.named
  have hlocks := B.notSynchronized
  have hin : meth.name = "<init>" := (name_of_methodNamed B.named B.method).1
  have hw := pw_start (cy := cy) hsz hP hD0
  have hN := pw_N.rf ha he
  have hl := lv_entry ([.ref h0, .ref p1]) (n := 2) (Nat.le_of_ble_eq_true rfl)
  rw [lg_entry_eq]
  generalize (lg_sl ([.ref h0, .ref p1]) ++ List.replicate (2 - (lg_sl ([.ref h0, .ref p1])).length) Slot.unset).toArray = ls at hl ⊢
  have hl : lv_has ls 2 [(0, .ref h0), (1, .ref p1)] := hl
  have hi0 : ∀ w ∈ u_ws RX0 TX0 22, w ∈ wsX0_init := (fun _ h => List.mem_cons_of_mem _ (List.mem_append_right _ h))
  refine lv_aload_n hx hb dX0_init_0 rfl (lv_at hl 0 rfl) ?_
  refine W.objInit hx hb hown (hts (.methodLink RX0 3 objectInit) (by decide +kernel)) (hts (.instanceMethod objectInit) (by decide +kernel)) (hts _ (show Cond.code objectInit ⟨#[0xb1]⟩ 1 none ∈ wsX0_init by decide +kernel)) rfl (by rw [hml]; exact hl.1) rfl dX0_init_1 (Nat.le_of_ble_eq_true rfl) (Nat.le_of_ble_eq_true rfl) ?_
  refine W.eq (g2 := F0 m 4 ls []) rfl ?_
  refine lv_aload_n hx hb dX0_init_4 rfl (lv_at hl 0 rfl) ?_
  refine lv_sipush (v := 18432) hx hb dX0_init_5 (by decide) ?_
  refine pw_cnewa (atype := .int) (t0 := 1) (cA := cy 1) (ty := .int) (N' := 18432) (a0 := (18432, .inl (fun _ => 0))) hx hb (hts (.arrayClass .int) (by decide +kernel)) rfl hG rfl (fun _ h => h) hw hN (fun _ => rfl) (by decide) (by decide) (Nat.le_of_ble_eq_true rfl) (Nat.le_of_ble_eq_true rfl) (Nat.le_of_ble_eq_true rfl) dX0_init_8 (fun q1 L1 f1 H hw hN => ?_)
  refine pw_cputF (ci := 0) (v := .ref q1) (C := RX0) (T := TX0) (N := 22) hx hb hts hi0 tyX0 tyX0_ok nmX0 hown hG hw hN rfl 1 (by decide) (hts (.fieldLink RX0 9 "TongueHouse$Chart" "firstNode" "[I") (by decide +kernel)) (fun _ h9 => h9) rfl hin rfl rfl rfl (Nat.le_of_ble_eq_true rfl) dX0_init_10 (fun f1 H locs hw hN => ?_)
  refine lv_aload_n hx hb dX0_init_13 rfl (lv_at hl 0 rfl) ?_
  refine lv_sipush (v := 18432) hx hb dX0_init_14 (by decide) ?_
  refine pw_cnewa (atype := .int) (t0 := 1) (cA := cy 1) (ty := .int) (N' := 18432) (a0 := (18432, .inl (fun _ => 0))) hx hb (hts (.arrayClass .int) (by decide +kernel)) rfl hG rfl (fun _ h => h) hw hN (fun _ => rfl) (by decide) (by decide) (Nat.le_of_ble_eq_true rfl) (Nat.le_of_ble_eq_true rfl) (Nat.le_of_ble_eq_true rfl) dX0_init_17 (fun q2 L1 f1 H hw hN => ?_)
  refine pw_cputF (ci := 0) (v := .ref q2) (C := RX0) (T := TX0) (N := 22) hx hb hts hi0 tyX0 tyX0_ok nmX0 hown hG hw hN rfl 2 (by decide) (hts (.fieldLink RX0 15 "TongueHouse$Chart" "nodeCount" "[I") (by decide +kernel)) (fun _ h9 => h9) rfl hin rfl rfl rfl (Nat.le_of_ble_eq_true rfl) dX0_init_19 (fun f1 H locs hw hN => ?_)
  refine lv_aload_n hx hb dX0_init_22 rfl (lv_at hl 0 rfl) ?_
  refine lv_sipush (v := 3000) hx hb dX0_init_23 (by decide) ?_
  refine pw_cnewa (atype := .int) (t0 := 1) (cA := cy 1) (ty := .int) (N' := 3000) (a0 := (3000, .inl (fun _ => 0))) hx hb (hts (.arrayClass .int) (by decide +kernel)) rfl hG rfl (fun _ h => h) hw hN (fun _ => rfl) (by decide) (by decide) (Nat.le_of_ble_eq_true rfl) (Nat.le_of_ble_eq_true rfl) (Nat.le_of_ble_eq_true rfl) dX0_init_26 (fun q3 L1 f1 H hw hN => ?_)
  refine pw_cputF (ci := 0) (v := .ref q3) (C := RX0) (T := TX0) (N := 22) hx hb hts hi0 tyX0 tyX0_ok nmX0 hown hG hw hN rfl 4 (by decide) (hts (.fieldLink RX0 18 "TongueHouse$Chart" "nodeEnd" "[I") (by decide +kernel)) (fun _ h9 => h9) rfl hin rfl rfl rfl (Nat.le_of_ble_eq_true rfl) dX0_init_28 (fun f1 H locs hw hN => ?_)
  refine lv_aload_n hx hb dX0_init_31 rfl (lv_at hl 0 rfl) ?_
  refine lv_sipush (v := 3000) hx hb dX0_init_32 (by decide) ?_
  refine pw_cnewa (atype := .int) (t0 := 1) (cA := cy 1) (ty := .int) (N' := 3000) (a0 := (3000, .inl (fun _ => 0))) hx hb (hts (.arrayClass .int) (by decide +kernel)) rfl hG rfl (fun _ h => h) hw hN (fun _ => rfl) (by decide) (by decide) (Nat.le_of_ble_eq_true rfl) (Nat.le_of_ble_eq_true rfl) (Nat.le_of_ble_eq_true rfl) dX0_init_35 (fun q4 L1 f1 H hw hN => ?_)
  refine pw_cputF (ci := 0) (v := .ref q4) (C := RX0) (T := TX0) (N := 22) hx hb hts hi0 tyX0 tyX0_ok nmX0 hown hG hw hN rfl 5 (by decide) (hts (.fieldLink RX0 21 "TongueHouse$Chart" "nodeValues" "[I") (by decide +kernel)) (fun _ h9 => h9) rfl hin rfl rfl rfl (Nat.le_of_ble_eq_true rfl) dX0_init_37 (fun f1 H locs hw hN => ?_)
  refine lv_aload_n hx hb dX0_init_40 rfl (lv_at hl 0 rfl) ?_
  refine lv_sipush (v := 9000) hx hb dX0_init_41 (by decide) ?_
  refine pw_cnewa (atype := .int) (t0 := 1) (cA := cy 1) (ty := .int) (N' := 9000) (a0 := (9000, .inl (fun _ => 0))) hx hb (hts (.arrayClass .int) (by decide +kernel)) rfl hG rfl (fun _ h => h) hw hN (fun _ => rfl) (by decide) (by decide) (Nat.le_of_ble_eq_true rfl) (Nat.le_of_ble_eq_true rfl) (Nat.le_of_ble_eq_true rfl) dX0_init_44 (fun q5 L1 f1 H hw hN => ?_)
  refine pw_cputF (ci := 0) (v := .ref q5) (C := RX0) (T := TX0) (N := 22) hx hb hts hi0 tyX0 tyX0_ok nmX0 hown hG hw hN rfl 7 (by decide) (hts (.fieldLink RX0 24 "TongueHouse$Chart" "wayNode" "[I") (by decide +kernel)) (fun _ h9 => h9) rfl hin rfl rfl rfl (Nat.le_of_ble_eq_true rfl) dX0_init_46 (fun f1 H locs hw hN => ?_)
  refine lv_aload_n hx hb dX0_init_49 rfl (lv_at hl 0 rfl) ?_
  refine lv_sipush (v := 9000) hx hb dX0_init_50 (by decide) ?_
  refine pw_cnewa (atype := .int) (t0 := 1) (cA := cy 1) (ty := .int) (N' := 9000) (a0 := (9000, .inl (fun _ => 0))) hx hb (hts (.arrayClass .int) (by decide +kernel)) rfl hG rfl (fun _ h => h) hw hN (fun _ => rfl) (by decide) (by decide) (Nat.le_of_ble_eq_true rfl) (Nat.le_of_ble_eq_true rfl) (Nat.le_of_ble_eq_true rfl) dX0_init_53 (fun q6 L1 f1 H hw hN => ?_)
  refine pw_cputF (ci := 0) (v := .ref q6) (C := RX0) (T := TX0) (N := 22) hx hb hts hi0 tyX0 tyX0_ok nmX0 hown hG hw hN rfl 8 (by decide) (hts (.fieldLink RX0 27 "TongueHouse$Chart" "wayRule" "[I") (by decide +kernel)) (fun _ h9 => h9) rfl hin rfl rfl rfl (Nat.le_of_ble_eq_true rfl) dX0_init_55 (fun f1 H locs hw hN => ?_)
  refine lv_aload_n hx hb dX0_init_58 rfl (lv_at hl 0 rfl) ?_
  refine lv_ldc (v := 36000) hx hb hown (hts (.constant RX0 30 36000) (by decide +kernel)) dX0_init_59 ?_
  refine pw_cnewa (atype := .int) (t0 := 1) (cA := cy 1) (ty := .int) (N' := 36000) (a0 := (36000, .inl (fun _ => 0))) hx hb (hts (.arrayClass .int) (by decide +kernel)) rfl hG rfl (fun _ h => h) hw hN (fun _ => rfl) (by decide) (by decide) (Nat.le_of_ble_eq_true rfl) (Nat.le_of_ble_eq_true rfl) (Nat.le_of_ble_eq_true rfl) dX0_init_61 (fun q7 L1 f1 H hw hN => ?_)
  refine pw_cputF (ci := 0) (v := .ref q7) (C := RX0) (T := TX0) (N := 22) hx hb hts hi0 tyX0 tyX0_ok nmX0 hown hG hw hN rfl 9 (by decide) (hts (.fieldLink RX0 31 "TongueHouse$Chart" "wayArgs" "[I") (by decide +kernel)) (fun _ h9 => h9) rfl hin rfl rfl rfl (Nat.le_of_ble_eq_true rfl) dX0_init_63 (fun f1 H locs hw hN => ?_)
  refine lv_aload_n hx hb dX0_init_66 rfl (lv_at hl 0 rfl) ?_
  refine lv_bipush (v := 33) hx hb dX0_init_67 (by decide) ?_
  refine pw_cnewa (atype := .int) (t0 := 1) (cA := cy 1) (ty := .int) (N' := 33) (a0 := (33, .inl (fun _ => 0))) hx hb (hts (.arrayClass .int) (by decide +kernel)) rfl hG rfl (fun _ h => h) hw hN (fun _ => rfl) (by decide) (by decide) (Nat.le_of_ble_eq_true rfl) (Nat.le_of_ble_eq_true rfl) (Nat.le_of_ble_eq_true rfl) dX0_init_69 (fun q8 L1 f1 H hw hN => ?_)
  refine pw_cputF (ci := 0) (v := .ref q8) (C := RX0) (T := TX0) (N := 22) hx hb hts hi0 tyX0 tyX0_ok nmX0 hown hG hw hN rfl 15 (by decide) (hts (.fieldLink RX0 34 "TongueHouse$Chart" "kindLins" "[I") (by decide +kernel)) (fun _ h9 => h9) rfl hin rfl rfl rfl (Nat.le_of_ble_eq_true rfl) dX0_init_71 (fun f1 H locs hw hN => ?_)
  refine lv_aload_n hx hb dX0_init_74 rfl (lv_at hl 0 rfl) ?_
  refine lv_sipush (v := 384) hx hb dX0_init_75 (by decide) ?_
  refine pw_cnewa (atype := .int) (t0 := 1) (cA := cy 1) (ty := .int) (N' := 384) (a0 := (384, .inl (fun _ => 0))) hx hb (hts (.arrayClass .int) (by decide +kernel)) rfl hG rfl (fun _ h => h) hw hN (fun _ => rfl) (by decide) (by decide) (Nat.le_of_ble_eq_true rfl) (Nat.le_of_ble_eq_true rfl) (Nat.le_of_ble_eq_true rfl) dX0_init_78 (fun q9 L1 f1 H hw hN => ?_)
  refine pw_cputF (ci := 0) (v := .ref q9) (C := RX0) (T := TX0) (N := 22) hx hb hts hi0 tyX0 tyX0_ok nmX0 hown hG hw hN rfl 16 (by decide) (hts (.fieldLink RX0 37 "TongueHouse$Chart" "linOrder" "[I") (by decide +kernel)) (fun _ h9 => h9) rfl hin rfl rfl rfl (Nat.le_of_ble_eq_true rfl) dX0_init_80 (fun f1 H locs hw hN => ?_)
  refine lv_aload_n hx hb dX0_init_83 rfl (lv_at hl 0 rfl) ?_
  refine lv_iconst (v := 4) hx hb dX0_init_84 (by decide) ?_
  refine pw_cnewa (atype := .int) (t0 := 1) (cA := cy 1) (ty := .int) (N' := 4) (a0 := (4, .inl (fun _ => 0))) hx hb (hts (.arrayClass .int) (by decide +kernel)) rfl hG rfl (fun _ h => h) hw hN (fun _ => rfl) (by decide) (by decide) (Nat.le_of_ble_eq_true rfl) (Nat.le_of_ble_eq_true rfl) (Nat.le_of_ble_eq_true rfl) dX0_init_85 (fun q10 L1 f1 H hw hN => ?_)
  refine pw_cputF (ci := 0) (v := .ref q10) (C := RX0) (T := TX0) (N := 22) hx hb hts hi0 tyX0 tyX0_ok nmX0 hown hG hw hN rfl 19 (by decide) (hts (.fieldLink RX0 40 "TongueHouse$Chart" "chosen" "[I") (by decide +kernel)) (fun _ h9 => h9) rfl hin rfl rfl rfl (Nat.le_of_ble_eq_true rfl) dX0_init_87 (fun f1 H locs hw hN => ?_)
  refine lv_aload_n hx hb dX0_init_90 rfl (lv_at hl 0 rfl) ?_
  refine lv_iconst (v := 4) hx hb dX0_init_91 (by decide) ?_
  refine pw_cnewa (atype := .int) (t0 := 1) (cA := cy 1) (ty := .int) (N' := 4) (a0 := (4, .inl (fun _ => 0))) hx hb (hts (.arrayClass .int) (by decide +kernel)) rfl hG rfl (fun _ h => h) hw hN (fun _ => rfl) (by decide) (by decide) (Nat.le_of_ble_eq_true rfl) (Nat.le_of_ble_eq_true rfl) (Nat.le_of_ble_eq_true rfl) dX0_init_92 (fun q11 L1 f1 H hw hN => ?_)
  refine pw_cputF (ci := 0) (v := .ref q11) (C := RX0) (T := TX0) (N := 22) hx hb hts hi0 tyX0 tyX0_ok nmX0 hown hG hw hN rfl 20 (by decide) (hts (.fieldLink RX0 43 "TongueHouse$Chart" "chosenValues" "[I") (by decide +kernel)) (fun _ h9 => h9) rfl hin rfl rfl rfl (Nat.le_of_ble_eq_true rfl) dX0_init_94 (fun f1 H locs hw hN => ?_)
  refine lv_aload_n hx hb dX0_init_97 rfl (lv_at hl 0 rfl) ?_
  refine lv_iconst (v := 4) hx hb dX0_init_98 (by decide) ?_
  refine pw_cnewa (atype := .int) (t0 := 1) (cA := cy 1) (ty := .int) (N' := 4) (a0 := (4, .inl (fun _ => 0))) hx hb (hts (.arrayClass .int) (by decide +kernel)) rfl hG rfl (fun _ h => h) hw hN (fun _ => rfl) (by decide) (by decide) (Nat.le_of_ble_eq_true rfl) (Nat.le_of_ble_eq_true rfl) (Nat.le_of_ble_eq_true rfl) dX0_init_99 (fun q12 L1 f1 H hw hN => ?_)
  refine pw_cputF (ci := 0) (v := .ref q12) (C := RX0) (T := TX0) (N := 22) hx hb hts hi0 tyX0 tyX0_ok nmX0 hown hG hw hN rfl 21 (by decide) (hts (.fieldLink RX0 46 "TongueHouse$Chart" "work" "[I") (by decide +kernel)) (fun _ h9 => h9) rfl hin rfl rfl rfl (Nat.le_of_ble_eq_true rfl) dX0_init_101 (fun f1 H locs hw hN => ?_)
  refine lv_aload_n hx hb dX0_init_104 rfl (lv_at hl 0 rfl) ?_
  refine lv_aload_n hx hb dX0_init_105 rfl (lv_at hl 1 rfl) ?_
  refine pw_cputF (ci := 0) (v := .ref p1) (C := RX0) (T := TX0) (N := 22) hx hb hts hi0 tyX0 tyX0_ok nmX0 hown hG hw hN rfl 0 (by decide) (hts (.fieldLink RX0 49 "TongueHouse$Chart" "store" "LTongueHouse$Store;") (by decide +kernel)) (fun _ h9 => h9) rfl hin rfl rfl rfl (Nat.le_of_ble_eq_true rfl) dX0_init_106 (fun f1 H locs hw hN => ?_)
  refine W.widen (k := 12) (n := 97293) (Nat.le_of_ble_eq_true rfl) (Nat.le_of_ble_eq_true rfl) ?_
  exact pw_vret hx hb hr hlocks hsz hw ⟨q1, q2, q3, q4, q5, q6, q7, q8, q9, q10, q11, q12, hN⟩ dX0_init_109
theorem bl_X5 : ∀ j, j < 19 → defaultValue (tyX5 j) = vp_V [.null, .null, .null, .int 0, .int 0, .null, .null, .null, .int 0, .null, .null, .null, .null, .null, .null, .int 0, .null, .null, .null] j := by decide +kernel
set_option maxHeartbeats 4000000 in
set_option maxRecDepth 100000 in
/-- TongueHouse$Ranking(..): 12 cells come -/
theorem c_X5_init (l : Launch) (D : va_G) (cy : Nat → ClassId) (h0 sz : Nat) (L : List Nat) (f : Nat → va_E) (p1 : Nat) (p2 : Nat) (ha : h0 ∈ L) (he : f h0 = .inr (5, [.null, .null, .null, .int 0, .int 0, .null, .null, .null, .int 0, .null, .null, .null, .null, .null, .null, .int 0, .null, .null, .null])) : Met l yX5_init wsX5_init ({ frames := 1, cells := 12, slots := 171372, locals := 12 }) (pw_Pc D cy [.ref h0, .ref p1, .ref p2] sz L f) (va_Qv (fun u : List Nat × (Nat → va_E) => ∃ q1 q2 q3 q4 q5 q6 q7 q8 q9 q10 q11 q12 : Nat, pw_N h0 5 L f u.1 u.2 [.ref p1, .ref p2, .null, .int 0, .int 0, .ref q1, .ref q2, .ref q3, .int 0, .ref q4, .ref q5, .ref q6, .ref q7, .ref q8, .ref q9, .int 0, .ref q10, .ref q11, .ref q12] [(q1, .inl (cy 3, 96, .inl (fun _ => 0))), (q2, .inl (cy 2, 3000, .inr (.inl (fun _ => 0)))), (q3, .inl (cy 3, 3000, .inl (fun _ => 0))), (q4, .inl (cy 1, 9000, .inl (fun _ => 0))), (q5, .inl (cy 1, 9000, .inl (fun _ => 0))), (q6, .inl (cy 1, 3000, .inl (fun _ => 0))), (q7, .inl (cy 1, 48000, .inl (fun _ => 0))), (q8, .inl (cy 1, 48000, .inl (fun _ => 0))), (q9, .inl (cy 1, 48000, .inl (fun _ => 0))), (q10, .inl (cy 1, 16, .inl (fun _ => 0))), (q11, .inl (cy 1, 16, .inl (fun _ => 0))), (q12, .inl (cy 1, 244, .inl (fun _ => 0)))]) (pw_B D (pw_A L f sz)) (pw_A L f sz)) 12 (171372) (pw_A L f sz) := by
  refine Met.ofW (cc := cX5_init) (maxL := 3) (ret := none) (by decide) rfl ?_
  intro p e s m args below meth c s₁ B hml hv
  obtain ⟨rfl, hsz, hG, hP, hD0⟩ := hv
  have hx := B.exec
  have hb := B.bytes
  have hr := B.returns
  have hts := atoms_spec (ws := wsX5_init) B.pre
  have hown : s.vm.findClass RX5 = some m.cls := findClass_of_methodNamed B.named
  have hlocks := B.notSynchronized
  have hin : meth.name = "<init>" := (name_of_methodNamed B.named B.method).1
  have hw := pw_start (cy := cy) hsz hP hD0
  have hN := pw_N.rf ha he
  have hl := lv_entry ([.ref h0, .ref p1, .ref p2]) (n := 3) (Nat.le_of_ble_eq_true rfl)
  rw [lg_entry_eq]
  generalize (lg_sl ([.ref h0, .ref p1, .ref p2]) ++ List.replicate (3 - (lg_sl ([.ref h0, .ref p1, .ref p2])).length) Slot.unset).toArray = ls at hl ⊢
  have hl : lv_has ls 3 [(0, .ref h0), (1, .ref p1), (2, .ref p2)] := hl
  have hi5 : ∀ w ∈ u_ws RX5 TX5 19, w ∈ wsX5_init := (fun _ h => List.mem_cons_of_mem _ (List.mem_append_right _ h))
  refine lv_aload_n hx hb dX5_init_0 rfl (lv_at hl 0 rfl) ?_
  refine W.objInit hx hb hown (hts (.methodLink RX5 3 objectInit) (by decide +kernel)) (hts (.instanceMethod objectInit) (by decide +kernel)) (hts _ (show Cond.code objectInit ⟨#[0xb1]⟩ 1 none ∈ wsX5_init by decide +kernel)) rfl (by rw [hml]; exact hl.1) rfl dX5_init_1 (Nat.le_of_ble_eq_true rfl) (Nat.le_of_ble_eq_true rfl) ?_
  refine W.eq (g2 := F0 m 4 ls []) rfl ?_
  refine lv_aload_n hx hb dX5_init_4 rfl (lv_at hl 0 rfl) ?_
  refine lv_bipush (v := 96) hx hb dX5_init_5 (by decide) ?_
  refine pw_cnewa (atype := .boolean) (t0 := 3) (cA := cy 3) (ty := .boolean) (N' := 96) (a0 := (96, .inl (fun _ => 0))) hx hb (hts (.arrayClass .boolean) (by decide +kernel)) rfl hG rfl (fun _ h => h) hw hN (fun _ => rfl) (by decide) (by decide) (Nat.le_of_ble_eq_true rfl) (Nat.le_of_ble_eq_true rfl) (Nat.le_of_ble_eq_true rfl) dX5_init_7 (fun q1 L1 f1 H hw hN => ?_)
  refine pw_cputF (ci := 5) (v := .ref q1) (C := RX5) (T := TX5) (N := 19) hx hb hts hi5 tyX5 tyX5_ok nmX5 hown hG hw hN rfl 5 (by decide) (hts (.fieldLink RX5 9 "TongueHouse$Ranking" "barred" "[Z") (by decide +kernel)) (fun _ h9 => h9) rfl hin rfl rfl rfl (Nat.le_of_ble_eq_true rfl) dX5_init_9 (fun f1 H locs hw hN => ?_)
  refine lv_aload_n hx hb dX5_init_12 rfl (lv_at hl 0 rfl) ?_
  refine lv_sipush (v := 3000) hx hb dX5_init_13 (by decide) ?_
  refine pw_cnewa (atype := .long) (t0 := 2) (cA := cy 2) (ty := .long) (N' := 3000) (a0 := (3000, .inr (.inl (fun _ => 0)))) hx hb (hts (.arrayClass .long) (by decide +kernel)) rfl hG rfl (fun _ h => h) hw hN (fun _ => rfl) (by decide) (by decide) (Nat.le_of_ble_eq_true rfl) (Nat.le_of_ble_eq_true rfl) (Nat.le_of_ble_eq_true rfl) dX5_init_16 (fun q2 L1 f1 H hw hN => ?_)
  refine pw_cputF (ci := 5) (v := .ref q2) (C := RX5) (T := TX5) (N := 19) hx hb hts hi5 tyX5 tyX5_ok nmX5 hown hG hw hN rfl 6 (by decide) (hts (.fieldLink RX5 17 "TongueHouse$Ranking" "treeCount" "[J") (by decide +kernel)) (fun _ h9 => h9) rfl hin rfl rfl rfl (Nat.le_of_ble_eq_true rfl) dX5_init_18 (fun f1 H locs hw hN => ?_)
  refine lv_aload_n hx hb dX5_init_21 rfl (lv_at hl 0 rfl) ?_
  refine lv_sipush (v := 3000) hx hb dX5_init_22 (by decide) ?_
  refine pw_cnewa (atype := .boolean) (t0 := 3) (cA := cy 3) (ty := .boolean) (N' := 3000) (a0 := (3000, .inl (fun _ => 0))) hx hb (hts (.arrayClass .boolean) (by decide +kernel)) rfl hG rfl (fun _ h => h) hw hN (fun _ => rfl) (by decide) (by decide) (Nat.le_of_ble_eq_true rfl) (Nat.le_of_ble_eq_true rfl) (Nat.le_of_ble_eq_true rfl) dX5_init_25 (fun q3 L1 f1 H hw hN => ?_)
  refine pw_cputF (ci := 5) (v := .ref q3) (C := RX5) (T := TX5) (N := 19) hx hb hts hi5 tyX5 tyX5_ok nmX5 hown hG hw hN rfl 7 (by decide) (hts (.fieldLink RX5 21 "TongueHouse$Ranking" "reached" "[Z") (by decide +kernel)) (fun _ h9 => h9) rfl hin rfl rfl rfl (Nat.le_of_ble_eq_true rfl) dX5_init_27 (fun f1 H locs hw hN => ?_)
  refine lv_aload_n hx hb dX5_init_30 rfl (lv_at hl 0 rfl) ?_
  refine lv_sipush (v := 9000) hx hb dX5_init_31 (by decide) ?_
  refine pw_cnewa (atype := .int) (t0 := 1) (cA := cy 1) (ty := .int) (N' := 9000) (a0 := (9000, .inl (fun _ => 0))) hx hb (hts (.arrayClass .int) (by decide +kernel)) rfl hG rfl (fun _ h => h) hw hN (fun _ => rfl) (by decide) (by decide) (Nat.le_of_ble_eq_true rfl) (Nat.le_of_ble_eq_true rfl) (Nat.le_of_ble_eq_true rfl) dX5_init_34 (fun q4 L1 f1 H hw hN => ?_)
  refine pw_cput (ci := 5) (v := .ref q4) (C := RX5) (T := TX5) (N := 19) hx hb hts hi5 tyX5 tyX5_ok nmX5 hown hG hw hN rfl 9 (by decide) (hts (.fieldLink RX5 24 "TongueHouse$Ranking" "order" "[I") (by decide +kernel)) (fun _ h9 => h9) rfl rfl rfl (Nat.le_of_ble_eq_true rfl) dX5_init_36 (fun f1 H locs hw hN => ?_)
  refine lv_aload_n hx hb dX5_init_39 rfl (lv_at hl 0 rfl) ?_
  refine lv_sipush (v := 9000) hx hb dX5_init_40 (by decide) ?_
  refine pw_cnewa (atype := .int) (t0 := 1) (cA := cy 1) (ty := .int) (N' := 9000) (a0 := (9000, .inl (fun _ => 0))) hx hb (hts (.arrayClass .int) (by decide +kernel)) rfl hG rfl (fun _ h => h) hw hN (fun _ => rfl) (by decide) (by decide) (Nat.le_of_ble_eq_true rfl) (Nat.le_of_ble_eq_true rfl) (Nat.le_of_ble_eq_true rfl) dX5_init_43 (fun q5 L1 f1 H hw hN => ?_)
  refine pw_cput (ci := 5) (v := .ref q5) (C := RX5) (T := TX5) (N := 19) hx hb hts hi5 tyX5 tyX5_ok nmX5 hown hG hw hN rfl 10 (by decide) (hts (.fieldLink RX5 28 "TongueHouse$Ranking" "spare" "[I") (by decide +kernel)) (fun _ h9 => h9) rfl rfl rfl (Nat.le_of_ble_eq_true rfl) dX5_init_45 (fun f1 H locs hw hN => ?_)
  refine lv_aload_n hx hb dX5_init_48 rfl (lv_at hl 0 rfl) ?_
  refine lv_sipush (v := 3000) hx hb dX5_init_49 (by decide) ?_
  refine pw_cnewa (atype := .int) (t0 := 1) (cA := cy 1) (ty := .int) (N' := 3000) (a0 := (3000, .inl (fun _ => 0))) hx hb (hts (.arrayClass .int) (by decide +kernel)) rfl hG rfl (fun _ h => h) hw hN (fun _ => rfl) (by decide) (by decide) (Nat.le_of_ble_eq_true rfl) (Nat.le_of_ble_eq_true rfl) (Nat.le_of_ble_eq_true rfl) dX5_init_52 (fun q6 L1 f1 H hw hN => ?_)
  refine pw_cputF (ci := 5) (v := .ref q6) (C := RX5) (T := TX5) (N := 19) hx hb hts hi5 tyX5 tyX5_ok nmX5 hown hG hw hN rfl 11 (by decide) (hts (.fieldLink RX5 31 "TongueHouse$Ranking" "listSize" "[I") (by decide +kernel)) (fun _ h9 => h9) rfl hin rfl rfl rfl (Nat.le_of_ble_eq_true rfl) dX5_init_54 (fun f1 H locs hw hN => ?_)
  refine lv_aload_n hx hb dX5_init_57 rfl (lv_at hl 0 rfl) ?_
  refine lv_ldc (v := 48000) hx hb hown (hts (.constant RX5 34 48000) (by decide +kernel)) dX5_init_58 ?_
  refine pw_cnewa (atype := .int) (t0 := 1) (cA := cy 1) (ty := .int) (N' := 48000) (a0 := (48000, .inl (fun _ => 0))) hx hb (hts (.arrayClass .int) (by decide +kernel)) rfl hG rfl (fun _ h => h) hw hN (fun _ => rfl) (by decide) (by decide) (Nat.le_of_ble_eq_true rfl) (Nat.le_of_ble_eq_true rfl) (Nat.le_of_ble_eq_true rfl) dX5_init_60 (fun q7 L1 f1 H hw hN => ?_)
  refine pw_cputF (ci := 5) (v := .ref q7) (C := RX5) (T := TX5) (N := 19) hx hb hts hi5 tyX5 tyX5_ok nmX5 hown hG hw hN rfl 12 (by decide) (hts (.fieldLink RX5 35 "TongueHouse$Ranking" "listPrice" "[I") (by decide +kernel)) (fun _ h9 => h9) rfl hin rfl rfl rfl (Nat.le_of_ble_eq_true rfl) dX5_init_62 (fun f1 H locs hw hN => ?_)
  refine lv_aload_n hx hb dX5_init_65 rfl (lv_at hl 0 rfl) ?_
  refine lv_ldc (v := 48000) hx hb hown (hts (.constant RX5 34 48000) (by decide +kernel)) dX5_init_66 ?_
  refine pw_cnewa (atype := .int) (t0 := 1) (cA := cy 1) (ty := .int) (N' := 48000) (a0 := (48000, .inl (fun _ => 0))) hx hb (hts (.arrayClass .int) (by decide +kernel)) rfl hG rfl (fun _ h => h) hw hN (fun _ => rfl) (by decide) (by decide) (Nat.le_of_ble_eq_true rfl) (Nat.le_of_ble_eq_true rfl) (Nat.le_of_ble_eq_true rfl) dX5_init_68 (fun q8 L1 f1 H hw hN => ?_)
  refine pw_cputF (ci := 5) (v := .ref q8) (C := RX5) (T := TX5) (N := 19) hx hb hts hi5 tyX5 tyX5_ok nmX5 hown hG hw hN rfl 13 (by decide) (hts (.fieldLink RX5 38 "TongueHouse$Ranking" "listWay" "[I") (by decide +kernel)) (fun _ h9 => h9) rfl hin rfl rfl rfl (Nat.le_of_ble_eq_true rfl) dX5_init_70 (fun f1 H locs hw hN => ?_)
  refine lv_aload_n hx hb dX5_init_73 rfl (lv_at hl 0 rfl) ?_
  refine lv_ldc (v := 48000) hx hb hown (hts (.constant RX5 34 48000) (by decide +kernel)) dX5_init_74 ?_
  refine pw_cnewa (atype := .int) (t0 := 1) (cA := cy 1) (ty := .int) (N' := 48000) (a0 := (48000, .inl (fun _ => 0))) hx hb (hts (.arrayClass .int) (by decide +kernel)) rfl hG rfl (fun _ h => h) hw hN (fun _ => rfl) (by decide) (by decide) (Nat.le_of_ble_eq_true rfl) (Nat.le_of_ble_eq_true rfl) (Nat.le_of_ble_eq_true rfl) dX5_init_76 (fun q9 L1 f1 H hw hN => ?_)
  refine pw_cputF (ci := 5) (v := .ref q9) (C := RX5) (T := TX5) (N := 19) hx hb hts hi5 tyX5 tyX5_ok nmX5 hown hG hw hN rfl 14 (by decide) (hts (.fieldLink RX5 41 "TongueHouse$Ranking" "listRanks" "[I") (by decide +kernel)) (fun _ h9 => h9) rfl hin rfl rfl rfl (Nat.le_of_ble_eq_true rfl) dX5_init_78 (fun f1 H locs hw hN => ?_)
  refine lv_aload_n hx hb dX5_init_81 rfl (lv_at hl 0 rfl) ?_
  refine lv_bipush (v := 16) hx hb dX5_init_82 (by decide) ?_
  refine pw_cnewa (atype := .int) (t0 := 1) (cA := cy 1) (ty := .int) (N' := 16) (a0 := (16, .inl (fun _ => 0))) hx hb (hts (.arrayClass .int) (by decide +kernel)) rfl hG rfl (fun _ h => h) hw hN (fun _ => rfl) (by decide) (by decide) (Nat.le_of_ble_eq_true rfl) (Nat.le_of_ble_eq_true rfl) (Nat.le_of_ble_eq_true rfl) dX5_init_84 (fun q10 L1 f1 H hw hN => ?_)
  refine pw_cputF (ci := 5) (v := .ref q10) (C := RX5) (T := TX5) (N := 19) hx hb hts hi5 tyX5 tyX5_ok nmX5 hown hG hw hN rfl 16 (by decide) (hts (.fieldLink RX5 44 "TongueHouse$Ranking" "topPrice" "[I") (by decide +kernel)) (fun _ h9 => h9) rfl hin rfl rfl rfl (Nat.le_of_ble_eq_true rfl) dX5_init_86 (fun f1 H locs hw hN => ?_)
  refine lv_aload_n hx hb dX5_init_89 rfl (lv_at hl 0 rfl) ?_
  refine lv_bipush (v := 16) hx hb dX5_init_90 (by decide) ?_
  refine pw_cnewa (atype := .int) (t0 := 1) (cA := cy 1) (ty := .int) (N' := 16) (a0 := (16, .inl (fun _ => 0))) hx hb (hts (.arrayClass .int) (by decide +kernel)) rfl hG rfl (fun _ h => h) hw hN (fun _ => rfl) (by decide) (by decide) (Nat.le_of_ble_eq_true rfl) (Nat.le_of_ble_eq_true rfl) (Nat.le_of_ble_eq_true rfl) dX5_init_92 (fun q11 L1 f1 H hw hN => ?_)
  refine pw_cputF (ci := 5) (v := .ref q11) (C := RX5) (T := TX5) (N := 19) hx hb hts hi5 tyX5 tyX5_ok nmX5 hown hG hw hN rfl 17 (by decide) (hts (.fieldLink RX5 47 "TongueHouse$Ranking" "topEntry" "[I") (by decide +kernel)) (fun _ h9 => h9) rfl hin rfl rfl rfl (Nat.le_of_ble_eq_true rfl) dX5_init_94 (fun f1 H locs hw hN => ?_)
  refine lv_aload_n hx hb dX5_init_97 rfl (lv_at hl 0 rfl) ?_
  refine lv_sipush (v := 244) hx hb dX5_init_98 (by decide) ?_
  refine pw_cnewa (atype := .int) (t0 := 1) (cA := cy 1) (ty := .int) (N' := 244) (a0 := (244, .inl (fun _ => 0))) hx hb (hts (.arrayClass .int) (by decide +kernel)) rfl hG rfl (fun _ h => h) hw hN (fun _ => rfl) (by decide) (by decide) (Nat.le_of_ble_eq_true rfl) (Nat.le_of_ble_eq_true rfl) (Nat.le_of_ble_eq_true rfl) dX5_init_101 (fun q12 L1 f1 H hw hN => ?_)
  refine pw_cputF (ci := 5) (v := .ref q12) (C := RX5) (T := TX5) (N := 19) hx hb hts hi5 tyX5 tyX5_ok nmX5 hown hG hw hN rfl 18 (by decide) (hts (.fieldLink RX5 50 "TongueHouse$Ranking" "stack" "[I") (by decide +kernel)) (fun _ h9 => h9) rfl hin rfl rfl rfl (Nat.le_of_ble_eq_true rfl) dX5_init_103 (fun f1 H locs hw hN => ?_)
  refine lv_aload_n hx hb dX5_init_106 rfl (lv_at hl 0 rfl) ?_
  refine lv_aload_n hx hb dX5_init_107 rfl (lv_at hl 1 rfl) ?_
  refine pw_cputF (ci := 5) (v := .ref p1) (C := RX5) (T := TX5) (N := 19) hx hb hts hi5 tyX5 tyX5_ok nmX5 hown hG hw hN rfl 0 (by decide) (hts (.fieldLink RX5 53 "TongueHouse$Ranking" "store" "LTongueHouse$Store;") (by decide +kernel)) (fun _ h9 => h9) rfl hin rfl rfl rfl (Nat.le_of_ble_eq_true rfl) dX5_init_108 (fun f1 H locs hw hN => ?_)
  refine lv_aload_n hx hb dX5_init_111 rfl (lv_at hl 0 rfl) ?_
  refine lv_aload_n hx hb dX5_init_112 rfl (lv_at hl 2 rfl) ?_
  refine pw_cputF (ci := 5) (v := .ref p2) (C := RX5) (T := TX5) (N := 19) hx hb hts hi5 tyX5 tyX5_ok nmX5 hown hG hw hN rfl 1 (by decide) (hts (.fieldLink RX5 57 "TongueHouse$Ranking" "chart" "LTongueHouse$Chart;") (by decide +kernel)) (fun _ h9 => h9) rfl hin rfl rfl rfl (Nat.le_of_ble_eq_true rfl) dX5_init_113 (fun f1 H locs hw hN => ?_)
  refine W.widen (k := 12) (n := 171372) (Nat.le_of_ble_eq_true rfl) (Nat.le_of_ble_eq_true rfl) ?_
  exact pw_vret hx hb hr hlocks hsz hw ⟨q1, q2, q3, q4, q5, q6, q7, q8, q9, q10, q11, q12, hN⟩ dX5_init_116
theorem bl_X7 : ∀ j, j < 15 → defaultValue (tyX7 j) = vp_V [.null, .null, .null, .null, .null, .null, .null, .null, .null, .null, .int 0, .null, .null, .null, .null] j := by decide +kernel
set_option maxHeartbeats 4000000 in
set_option maxRecDepth 100000 in
/-- TongueHouse$Sayer(..): 11 cells come -/
theorem c_X7_init (l : Launch) (D : va_G) (cy : Nat → ClassId) (h0 sz : Nat) (L : List Nat) (f : Nat → va_E) (p1 : Nat) (ha : h0 ∈ L) (he : f h0 = .inr (7, [.null, .null, .null, .null, .null, .null, .null, .null, .null, .null, .int 0, .null, .null, .null, .null])) : Met l yX7_init wsX7_init ({ frames := 1, cells := 11, slots := 7628, locals := 12 }) (pw_Pc D cy [.ref h0, .ref p1] sz L f) (va_Qv (fun u : List Nat × (Nat → va_E) => ∃ q1 q2 q3 q4 q5 q6 q7 q8 q9 q10 q11 : Nat, pw_N h0 7 L f u.1 u.2 [.ref p1, .null, .null, .ref q1, .ref q2, .ref q3, .ref q4, .ref q5, .ref q6, .ref q7, .int 0, .ref q8, .ref q9, .ref q10, .ref q11] [(q1, .inl (cy 1, 240, .inl (fun _ => 0))), (q2, .inl (cy 1, 60, .inl (fun _ => 0))), (q3, .inl (cy 1, 1440, .inl (fun _ => 0))), (q4, .inl (cy 1, 1440, .inl (fun _ => 0))), (q5, .inl (cy 1, 1440, .inl (fun _ => 0))), (q6, .inl (cy 1, 1440, .inl (fun _ => 0))), (q7, .inl (cy 1, 1440, .inl (fun _ => 0))), (q8, .inl (cy 1, 4, .inl (fun _ => 0))), (q9, .inl (cy 1, 4, .inl (fun _ => 0))), (q10, .inl (cy 1, 60, .inl (fun _ => 0))), (q11, .inl (cy 1, 60, .inl (fun _ => 0)))]) (pw_B D (pw_A L f sz)) (pw_A L f sz)) 11 (7628) (pw_A L f sz) := by
  refine Met.ofW (cc := cX7_init) (maxL := 2) (ret := none) (by decide) rfl ?_
  intro p e s m args below meth c s₁ B hml hv
  obtain ⟨rfl, hsz, hG, hP, hD0⟩ := hv
  have hx := B.exec
  have hb := B.bytes
  have hr := B.returns
  have hts := atoms_spec (ws := wsX7_init) B.pre
  have hown : s.vm.findClass RX7 = some m.cls := findClass_of_methodNamed B.named
  have hlocks := B.notSynchronized
  have hin : meth.name = "<init>" := (name_of_methodNamed B.named B.method).1
  have hw := pw_start (cy := cy) hsz hP hD0
  have hN := pw_N.rf ha he
  have hl := lv_entry ([.ref h0, .ref p1]) (n := 2) (Nat.le_of_ble_eq_true rfl)
  rw [lg_entry_eq]
  generalize (lg_sl ([.ref h0, .ref p1]) ++ List.replicate (2 - (lg_sl ([.ref h0, .ref p1])).length) Slot.unset).toArray = ls at hl ⊢
  have hl : lv_has ls 2 [(0, .ref h0), (1, .ref p1)] := hl
  have hi7 : ∀ w ∈ u_ws RX7 TX7 15, w ∈ wsX7_init := (fun _ h => List.mem_cons_of_mem _ (List.mem_append_right _ h))
  refine lv_aload_n hx hb dX7_init_0 rfl (lv_at hl 0 rfl) ?_
  refine W.objInit hx hb hown (hts (.methodLink RX7 3 objectInit) (by decide +kernel)) (hts (.instanceMethod objectInit) (by decide +kernel)) (hts _ (show Cond.code objectInit ⟨#[0xb1]⟩ 1 none ∈ wsX7_init by decide +kernel)) rfl (by rw [hml]; exact hl.1) rfl dX7_init_1 (Nat.le_of_ble_eq_true rfl) (Nat.le_of_ble_eq_true rfl) ?_
  refine W.eq (g2 := F0 m 4 ls []) rfl ?_
  refine lv_aload_n hx hb dX7_init_4 rfl (lv_at hl 0 rfl) ?_
  refine lv_sipush (v := 240) hx hb dX7_init_5 (by decide) ?_
  refine pw_cnewa (atype := .int) (t0 := 1) (cA := cy 1) (ty := .int) (N' := 240) (a0 := (240, .inl (fun _ => 0))) hx hb (hts (.arrayClass .int) (by decide +kernel)) rfl hG rfl (fun _ h => h) hw hN (fun _ => rfl) (by decide) (by decide) (Nat.le_of_ble_eq_true rfl) (Nat.le_of_ble_eq_true rfl) (Nat.le_of_ble_eq_true rfl) dX7_init_8 (fun q1 L1 f1 H hw hN => ?_)
  refine pw_cputF (ci := 7) (v := .ref q1) (C := RX7) (T := TX7) (N := 15) hx hb hts hi7 tyX7 tyX7_ok nmX7 hown hG hw hN rfl 3 (by decide) (hts (.fieldLink RX7 9 "TongueHouse$Sayer" "child" "[I") (by decide +kernel)) (fun _ h9 => h9) rfl hin rfl rfl rfl (Nat.le_of_ble_eq_true rfl) dX7_init_10 (fun f1 H locs hw hN => ?_)
  refine lv_aload_n hx hb dX7_init_13 rfl (lv_at hl 0 rfl) ?_
  refine lv_bipush (v := 60) hx hb dX7_init_14 (by decide) ?_
  refine pw_cnewa (atype := .int) (t0 := 1) (cA := cy 1) (ty := .int) (N' := 60) (a0 := (60, .inl (fun _ => 0))) hx hb (hts (.arrayClass .int) (by decide +kernel)) rfl hG rfl (fun _ h => h) hw hN (fun _ => rfl) (by decide) (by decide) (Nat.le_of_ble_eq_true rfl) (Nat.le_of_ble_eq_true rfl) (Nat.le_of_ble_eq_true rfl) dX7_init_16 (fun q2 L1 f1 H hw hN => ?_)
  refine pw_cputF (ci := 7) (v := .ref q2) (C := RX7) (T := TX7) (N := 15) hx hb hts hi7 tyX7 tyX7_ok nmX7 hown hG hw hN rfl 4 (by decide) (hts (.fieldLink RX7 15 "TongueHouse$Sayer" "options" "[I") (by decide +kernel)) (fun _ h9 => h9) rfl hin rfl rfl rfl (Nat.le_of_ble_eq_true rfl) dX7_init_18 (fun f1 H locs hw hN => ?_)
  refine lv_aload_n hx hb dX7_init_21 rfl (lv_at hl 0 rfl) ?_
  refine lv_sipush (v := 1440) hx hb dX7_init_22 (by decide) ?_
  refine pw_cnewa (atype := .int) (t0 := 1) (cA := cy 1) (ty := .int) (N' := 1440) (a0 := (1440, .inl (fun _ => 0))) hx hb (hts (.arrayClass .int) (by decide +kernel)) rfl hG rfl (fun _ h => h) hw hN (fun _ => rfl) (by decide) (by decide) (Nat.le_of_ble_eq_true rfl) (Nat.le_of_ble_eq_true rfl) (Nat.le_of_ble_eq_true rfl) dX7_init_25 (fun q3 L1 f1 H hw hN => ?_)
  refine pw_cputF (ci := 7) (v := .ref q3) (C := RX7) (T := TX7) (N := 15) hx hb hts hi7 tyX7 tyX7_ok nmX7 hown hG hw hN rfl 5 (by decide) (hts (.fieldLink RX7 18 "TongueHouse$Sayer" "cost" "[I") (by decide +kernel)) (fun _ h9 => h9) rfl hin rfl rfl rfl (Nat.le_of_ble_eq_true rfl) dX7_init_27 (fun f1 H locs hw hN => ?_)
  refine lv_aload_n hx hb dX7_init_30 rfl (lv_at hl 0 rfl) ?_
  refine lv_sipush (v := 1440) hx hb dX7_init_31 (by decide) ?_
  refine pw_cnewa (atype := .int) (t0 := 1) (cA := cy 1) (ty := .int) (N' := 1440) (a0 := (1440, .inl (fun _ => 0))) hx hb (hts (.arrayClass .int) (by decide +kernel)) rfl hG rfl (fun _ h => h) hw hN (fun _ => rfl) (by decide) (by decide) (Nat.le_of_ble_eq_true rfl) (Nat.le_of_ble_eq_true rfl) (Nat.le_of_ble_eq_true rfl) dX7_init_34 (fun q4 L1 f1 H hw hN => ?_)
  refine pw_cputF (ci := 7) (v := .ref q4) (C := RX7) (T := TX7) (N := 15) hx hb hts hi7 tyX7 tyX7_ok nmX7 hown hG hw hN rfl 6 (by decide) (hts (.fieldLink RX7 21 "TongueHouse$Sayer" "values" "[I") (by decide +kernel)) (fun _ h9 => h9) rfl hin rfl rfl rfl (Nat.le_of_ble_eq_true rfl) dX7_init_36 (fun f1 H locs hw hN => ?_)
  refine lv_aload_n hx hb dX7_init_39 rfl (lv_at hl 0 rfl) ?_
  refine lv_sipush (v := 1440) hx hb dX7_init_40 (by decide) ?_
  refine pw_cnewa (atype := .int) (t0 := 1) (cA := cy 1) (ty := .int) (N' := 1440) (a0 := (1440, .inl (fun _ => 0))) hx hb (hts (.arrayClass .int) (by decide +kernel)) rfl hG rfl (fun _ h => h) hw hN (fun _ => rfl) (by decide) (by decide) (Nat.le_of_ble_eq_true rfl) (Nat.le_of_ble_eq_true rfl) (Nat.le_of_ble_eq_true rfl) dX7_init_43 (fun q5 L1 f1 H hw hN => ?_)
  refine pw_cputF (ci := 7) (v := .ref q5) (C := RX7) (T := TX7) (N := 15) hx hb hts hi7 tyX7 tyX7_ok nmX7 hown hG hw hN rfl 7 (by decide) (hts (.fieldLink RX7 24 "TongueHouse$Sayer" "length" "[I") (by decide +kernel)) (fun _ h9 => h9) rfl hin rfl rfl rfl (Nat.le_of_ble_eq_true rfl) dX7_init_45 (fun f1 H locs hw hN => ?_)
  refine lv_aload_n hx hb dX7_init_48 rfl (lv_at hl 0 rfl) ?_
  refine lv_sipush (v := 1440) hx hb dX7_init_49 (by decide) ?_
  refine pw_cnewa (atype := .int) (t0 := 1) (cA := cy 1) (ty := .int) (N' := 1440) (a0 := (1440, .inl (fun _ => 0))) hx hb (hts (.arrayClass .int) (by decide +kernel)) rfl hG rfl (fun _ h => h) hw hN (fun _ => rfl) (by decide) (by decide) (Nat.le_of_ble_eq_true rfl) (Nat.le_of_ble_eq_true rfl) (Nat.le_of_ble_eq_true rfl) dX7_init_52 (fun q6 L1 f1 H hw hN => ?_)
  refine pw_cputF (ci := 7) (v := .ref q6) (C := RX7) (T := TX7) (N := 15) hx hb hts hi7 tyX7 tyX7_ok nmX7 hown hG hw hN rfl 8 (by decide) (hts (.fieldLink RX7 27 "TongueHouse$Sayer" "rule" "[I") (by decide +kernel)) (fun _ h9 => h9) rfl hin rfl rfl rfl (Nat.le_of_ble_eq_true rfl) dX7_init_54 (fun f1 H locs hw hN => ?_)
  refine lv_aload_n hx hb dX7_init_57 rfl (lv_at hl 0 rfl) ?_
  refine lv_sipush (v := 1440) hx hb dX7_init_58 (by decide) ?_
  refine pw_cnewa (atype := .int) (t0 := 1) (cA := cy 1) (ty := .int) (N' := 1440) (a0 := (1440, .inl (fun _ => 0))) hx hb (hts (.arrayClass .int) (by decide +kernel)) rfl hG rfl (fun _ h => h) hw hN (fun _ => rfl) (by decide) (by decide) (Nat.le_of_ble_eq_true rfl) (Nat.le_of_ble_eq_true rfl) (Nat.le_of_ble_eq_true rfl) dX7_init_61 (fun q7 L1 f1 H hw hN => ?_)
  refine pw_cputF (ci := 7) (v := .ref q7) (C := RX7) (T := TX7) (N := 15) hx hb hts hi7 tyX7 tyX7_ok nmX7 hown hG hw hN rfl 9 (by decide) (hts (.fieldLink RX7 30 "TongueHouse$Sayer" "picks" "[I") (by decide +kernel)) (fun _ h9 => h9) rfl hin rfl rfl rfl (Nat.le_of_ble_eq_true rfl) dX7_init_63 (fun f1 H locs hw hN => ?_)
  refine lv_aload_n hx hb dX7_init_66 rfl (lv_at hl 0 rfl) ?_
  refine lv_iconst (v := 4) hx hb dX7_init_67 (by decide) ?_
  refine pw_cnewa (atype := .int) (t0 := 1) (cA := cy 1) (ty := .int) (N' := 4) (a0 := (4, .inl (fun _ => 0))) hx hb (hts (.arrayClass .int) (by decide +kernel)) rfl hG rfl (fun _ h => h) hw hN (fun _ => rfl) (by decide) (by decide) (Nat.le_of_ble_eq_true rfl) (Nat.le_of_ble_eq_true rfl) (Nat.le_of_ble_eq_true rfl) dX7_init_68 (fun q8 L1 f1 H hw hN => ?_)
  refine pw_cputF (ci := 7) (v := .ref q8) (C := RX7) (T := TX7) (N := 15) hx hb hts hi7 tyX7 tyX7_ok nmX7 hown hG hw hN rfl 11 (by decide) (hts (.fieldLink RX7 33 "TongueHouse$Sayer" "picked" "[I") (by decide +kernel)) (fun _ h9 => h9) rfl hin rfl rfl rfl (Nat.le_of_ble_eq_true rfl) dX7_init_70 (fun f1 H locs hw hN => ?_)
  refine lv_aload_n hx hb dX7_init_73 rfl (lv_at hl 0 rfl) ?_
  refine lv_iconst (v := 4) hx hb dX7_init_74 (by decide) ?_
  refine pw_cnewa (atype := .int) (t0 := 1) (cA := cy 1) (ty := .int) (N' := 4) (a0 := (4, .inl (fun _ => 0))) hx hb (hts (.arrayClass .int) (by decide +kernel)) rfl hG rfl (fun _ h => h) hw hN (fun _ => rfl) (by decide) (by decide) (Nat.le_of_ble_eq_true rfl) (Nat.le_of_ble_eq_true rfl) (Nat.le_of_ble_eq_true rfl) dX7_init_75 (fun q9 L1 f1 H hw hN => ?_)
  refine pw_cputF (ci := 7) (v := .ref q9) (C := RX7) (T := TX7) (N := 15) hx hb hts hi7 tyX7 tyX7_ok nmX7 hown hG hw hN rfl 12 (by decide) (hts (.fieldLink RX7 36 "TongueHouse$Sayer" "work" "[I") (by decide +kernel)) (fun _ h9 => h9) rfl hin rfl rfl rfl (Nat.le_of_ble_eq_true rfl) dX7_init_77 (fun f1 H locs hw hN => ?_)
  refine lv_aload_n hx hb dX7_init_80 rfl (lv_at hl 0 rfl) ?_
  refine lv_bipush (v := 60) hx hb dX7_init_81 (by decide) ?_
  refine pw_cnewa (atype := .int) (t0 := 1) (cA := cy 1) (ty := .int) (N' := 60) (a0 := (60, .inl (fun _ => 0))) hx hb (hts (.arrayClass .int) (by decide +kernel)) rfl hG rfl (fun _ h => h) hw hN (fun _ => rfl) (by decide) (by decide) (Nat.le_of_ble_eq_true rfl) (Nat.le_of_ble_eq_true rfl) (Nat.le_of_ble_eq_true rfl) dX7_init_83 (fun q10 L1 f1 H hw hN => ?_)
  refine pw_cputF (ci := 7) (v := .ref q10) (C := RX7) (T := TX7) (N := 15) hx hb hts hi7 tyX7 tyX7_ok nmX7 hown hG hw hN rfl 13 (by decide) (hts (.fieldLink RX7 39 "TongueHouse$Sayer" "openEntry" "[I") (by decide +kernel)) (fun _ h9 => h9) rfl hin rfl rfl rfl (Nat.le_of_ble_eq_true rfl) dX7_init_85 (fun f1 H locs hw hN => ?_)
  refine lv_aload_n hx hb dX7_init_88 rfl (lv_at hl 0 rfl) ?_
  refine lv_bipush (v := 60) hx hb dX7_init_89 (by decide) ?_
  refine pw_cnewa (atype := .int) (t0 := 1) (cA := cy 1) (ty := .int) (N' := 60) (a0 := (60, .inl (fun _ => 0))) hx hb (hts (.arrayClass .int) (by decide +kernel)) rfl hG rfl (fun _ h => h) hw hN (fun _ => rfl) (by decide) (by decide) (Nat.le_of_ble_eq_true rfl) (Nat.le_of_ble_eq_true rfl) (Nat.le_of_ble_eq_true rfl) dX7_init_91 (fun q11 L1 f1 H hw hN => ?_)
  refine pw_cputF (ci := 7) (v := .ref q11) (C := RX7) (T := TX7) (N := 15) hx hb hts hi7 tyX7 tyX7_ok nmX7 hown hG hw hN rfl 14 (by decide) (hts (.fieldLink RX7 42 "TongueHouse$Sayer" "openItem" "[I") (by decide +kernel)) (fun _ h9 => h9) rfl hin rfl rfl rfl (Nat.le_of_ble_eq_true rfl) dX7_init_93 (fun f1 H locs hw hN => ?_)
  refine lv_aload_n hx hb dX7_init_96 rfl (lv_at hl 0 rfl) ?_
  refine lv_aload_n hx hb dX7_init_97 rfl (lv_at hl 1 rfl) ?_
  refine pw_cputF (ci := 7) (v := .ref p1) (C := RX7) (T := TX7) (N := 15) hx hb hts hi7 tyX7 tyX7_ok nmX7 hown hG hw hN rfl 0 (by decide) (hts (.fieldLink RX7 45 "TongueHouse$Sayer" "store" "LTongueHouse$Store;") (by decide +kernel)) (fun _ h9 => h9) rfl hin rfl rfl rfl (Nat.le_of_ble_eq_true rfl) dX7_init_98 (fun f1 H locs hw hN => ?_)
  refine W.widen (k := 11) (n := 7628) (Nat.le_of_ble_eq_true rfl) (Nat.le_of_ble_eq_true rfl) ?_
  exact pw_vret hx hb hr hlocks hsz hw ⟨q1, q2, q3, q4, q5, q6, q7, q8, q9, q10, q11, hN⟩ dX7_init_101
theorem bl_X10 : ∀ j, j < 19 → defaultValue (tyX10 j) = vp_V [.null, .int 0, .null, .null, .null, .null, .null, .null, .null, .int 0, .null, .null, .null, .null, .null, .null, .int 0, .int 0, .int 0] j := by decide +kernel
set_option maxHeartbeats 4000000 in
set_option maxRecDepth 100000 in
/-- TongueHouse$Thought(..): 13 cells come -/
theorem c_X10_init (l : Launch) (D : va_G) (cy : Nat → ClassId) (h0 sz : Nat) (L : List Nat) (f : Nat → va_E) (p1 : Nat) (ha : h0 ∈ L) (he : f h0 = .inr (10, [.null, .int 0, .null, .null, .null, .null, .null, .null, .null, .int 0, .null, .null, .null, .null, .null, .null, .int 0, .int 0, .int 0])) : Met l yX10_init wsX10_init ({ frames := 1, cells := 13, slots := 3841, locals := 12 }) (pw_Pc D cy [.ref h0, .ref p1] sz L f) (va_Qv (fun u : List Nat × (Nat → va_E) => ∃ q1 q2 q3 q4 q5 q6 q7 q8 q9 q10 q11 q12 q13 : Nat, pw_N h0 10 L f u.1 u.2 [.ref p1, .int 0, .ref q1, .ref q2, .ref q3, .ref q4, .ref q5, .ref q6, .ref q7, .int 0, .ref q8, .ref q9, .ref q10, .ref q11, .ref q12, .ref q13, .int 0, .int 0, .int 0] [(q1, .inl (cy 1, 300, .inl (fun _ => 0))), (q2, .inl (cy 2, 300, .inr (.inl (fun _ => 0)))), (q3, .inl (cy 1, 300, .inl (fun _ => 0))), (q4, .inl (cy 2, 300, .inr (.inl (fun _ => 0)))), (q5, .inl (cy 1, 240, .inl (fun _ => 0))), (q6, .inl (cy 1, 300, .inl (fun _ => 0))), (q7, .inl (cy 1, 300, .inl (fun _ => 0))), (q8, .inl (cy 2, 300, .inr (.inl (fun _ => 0)))), (q9, .inl (cy 1, 300, .inl (fun _ => 0))), (q10, .inl (cy 1, 300, .inl (fun _ => 0))), (q11, .inl (cy 1, 300, .inl (fun _ => 0))), (q12, .inl (cy 1, 300, .inl (fun _ => 0))), (q13, .inl (cy 1, 301, .inl (fun _ => 0)))]) (pw_B D (pw_A L f sz)) (pw_A L f sz)) 13 (3841) (pw_A L f sz) := by
  refine Met.ofW (cc := cX10_init) (maxL := 2) (ret := none) (by decide) rfl ?_
  intro p e s m args below meth c s₁ B hml hv
  obtain ⟨rfl, hsz, hG, hP, hD0⟩ := hv
  have hx := B.exec
  have hb := B.bytes
  have hr := B.returns
  have hts := atoms_spec (ws := wsX10_init) B.pre
  have hown : s.vm.findClass RX10 = some m.cls := findClass_of_methodNamed B.named
  have hlocks := B.notSynchronized
  have hin : meth.name = "<init>" := (name_of_methodNamed B.named B.method).1
  have hw := pw_start (cy := cy) hsz hP hD0
  have hN := pw_N.rf ha he
  have hl := lv_entry ([.ref h0, .ref p1]) (n := 2) (Nat.le_of_ble_eq_true rfl)
  rw [lg_entry_eq]
  generalize (lg_sl ([.ref h0, .ref p1]) ++ List.replicate (2 - (lg_sl ([.ref h0, .ref p1])).length) Slot.unset).toArray = ls at hl ⊢
  have hl : lv_has ls 2 [(0, .ref h0), (1, .ref p1)] := hl
  have hi10 : ∀ w ∈ u_ws RX10 TX10 19, w ∈ wsX10_init := (fun _ h => List.mem_cons_of_mem _ (List.mem_append_right _ h))
  refine lv_aload_n hx hb dX10_init_0 rfl (lv_at hl 0 rfl) ?_
  refine W.objInit hx hb hown (hts (.methodLink RX10 3 objectInit) (by decide +kernel)) (hts (.instanceMethod objectInit) (by decide +kernel)) (hts _ (show Cond.code objectInit ⟨#[0xb1]⟩ 1 none ∈ wsX10_init by decide +kernel)) rfl (by rw [hml]; exact hl.1) rfl dX10_init_1 (Nat.le_of_ble_eq_true rfl) (Nat.le_of_ble_eq_true rfl) ?_
  refine W.eq (g2 := F0 m 4 ls []) rfl ?_
  refine lv_aload_n hx hb dX10_init_4 rfl (lv_at hl 0 rfl) ?_
  refine lv_sipush (v := 300) hx hb dX10_init_5 (by decide) ?_
  refine pw_cnewa (atype := .int) (t0 := 1) (cA := cy 1) (ty := .int) (N' := 300) (a0 := (300, .inl (fun _ => 0))) hx hb (hts (.arrayClass .int) (by decide +kernel)) rfl hG rfl (fun _ h => h) hw hN (fun _ => rfl) (by decide) (by decide) (Nat.le_of_ble_eq_true rfl) (Nat.le_of_ble_eq_true rfl) (Nat.le_of_ble_eq_true rfl) dX10_init_8 (fun q1 L1 f1 H hw hN => ?_)
  refine pw_cput (ci := 10) (v := .ref q1) (C := RX10) (T := TX10) (N := 19) hx hb hts hi10 tyX10 tyX10_ok nmX10 hown hG hw hN rfl 2 (by decide) (hts (.fieldLink RX10 11 "TongueHouse$Thought" "op" "[I") (by decide +kernel)) (fun _ h9 => h9) rfl rfl rfl (Nat.le_of_ble_eq_true rfl) dX10_init_10 (fun f1 H locs hw hN => ?_)
  refine lv_aload_n hx hb dX10_init_13 rfl (lv_at hl 0 rfl) ?_
  refine lv_sipush (v := 300) hx hb dX10_init_14 (by decide) ?_
  refine pw_cnewa (atype := .long) (t0 := 2) (cA := cy 2) (ty := .long) (N' := 300) (a0 := (300, .inr (.inl (fun _ => 0)))) hx hb (hts (.arrayClass .long) (by decide +kernel)) rfl hG rfl (fun _ h => h) hw hN (fun _ => rfl) (by decide) (by decide) (Nat.le_of_ble_eq_true rfl) (Nat.le_of_ble_eq_true rfl) (Nat.le_of_ble_eq_true rfl) dX10_init_17 (fun q2 L1 f1 H hw hN => ?_)
  refine pw_cput (ci := 10) (v := .ref q2) (C := RX10) (T := TX10) (N := 19) hx hb hts hi10 tyX10 tyX10_ok nmX10 hown hG hw hN rfl 3 (by decide) (hts (.fieldLink RX10 15 "TongueHouse$Thought" "name" "[J") (by decide +kernel)) (fun _ h9 => h9) rfl rfl rfl (Nat.le_of_ble_eq_true rfl) dX10_init_19 (fun f1 H locs hw hN => ?_)
  refine lv_aload_n hx hb dX10_init_22 rfl (lv_at hl 0 rfl) ?_
  refine lv_sipush (v := 300) hx hb dX10_init_23 (by decide) ?_
  refine pw_cnewa (atype := .int) (t0 := 1) (cA := cy 1) (ty := .int) (N' := 300) (a0 := (300, .inl (fun _ => 0))) hx hb (hts (.arrayClass .int) (by decide +kernel)) rfl hG rfl (fun _ h => h) hw hN (fun _ => rfl) (by decide) (by decide) (Nat.le_of_ble_eq_true rfl) (Nat.le_of_ble_eq_true rfl) (Nat.le_of_ble_eq_true rfl) dX10_init_26 (fun q3 L1 f1 H hw hN => ?_)
  refine pw_cput (ci := 10) (v := .ref q3) (C := RX10) (T := TX10) (N := 19) hx hb hts hi10 tyX10 tyX10_ok nmX10 hown hG hw hN rfl 4 (by decide) (hts (.fieldLink RX10 19 "TongueHouse$Thought" "nextOp" "[I") (by decide +kernel)) (fun _ h9 => h9) rfl rfl rfl (Nat.le_of_ble_eq_true rfl) dX10_init_28 (fun f1 H locs hw hN => ?_)
  refine lv_aload_n hx hb dX10_init_31 rfl (lv_at hl 0 rfl) ?_
  refine lv_sipush (v := 300) hx hb dX10_init_32 (by decide) ?_
  refine pw_cnewa (atype := .long) (t0 := 2) (cA := cy 2) (ty := .long) (N' := 300) (a0 := (300, .inr (.inl (fun _ => 0)))) hx hb (hts (.arrayClass .long) (by decide +kernel)) rfl hG rfl (fun _ h => h) hw hN (fun _ => rfl) (by decide) (by decide) (Nat.le_of_ble_eq_true rfl) (Nat.le_of_ble_eq_true rfl) (Nat.le_of_ble_eq_true rfl) dX10_init_35 (fun q4 L1 f1 H hw hN => ?_)
  refine pw_cput (ci := 10) (v := .ref q4) (C := RX10) (T := TX10) (N := 19) hx hb hts hi10 tyX10 tyX10_ok nmX10 hown hG hw hN rfl 5 (by decide) (hts (.fieldLink RX10 22 "TongueHouse$Thought" "nextName" "[J") (by decide +kernel)) (fun _ h9 => h9) rfl rfl rfl (Nat.le_of_ble_eq_true rfl) dX10_init_37 (fun f1 H locs hw hN => ?_)
  refine lv_aload_n hx hb dX10_init_40 rfl (lv_at hl 0 rfl) ?_
  refine lv_sipush (v := 240) hx hb dX10_init_41 (by decide) ?_
  refine pw_cnewa (atype := .int) (t0 := 1) (cA := cy 1) (ty := .int) (N' := 240) (a0 := (240, .inl (fun _ => 0))) hx hb (hts (.arrayClass .int) (by decide +kernel)) rfl hG rfl (fun _ h => h) hw hN (fun _ => rfl) (by decide) (by decide) (Nat.le_of_ble_eq_true rfl) (Nat.le_of_ble_eq_true rfl) (Nat.le_of_ble_eq_true rfl) dX10_init_44 (fun q5 L1 f1 H hw hN => ?_)
  refine pw_cputF (ci := 10) (v := .ref q5) (C := RX10) (T := TX10) (N := 19) hx hb hts hi10 tyX10 tyX10_ok nmX10 hown hG hw hN rfl 6 (by decide) (hts (.fieldLink RX10 25 "TongueHouse$Thought" "child" "[I") (by decide +kernel)) (fun _ h9 => h9) rfl hin rfl rfl rfl (Nat.le_of_ble_eq_true rfl) dX10_init_46 (fun f1 H locs hw hN => ?_)
  refine lv_aload_n hx hb dX10_init_49 rfl (lv_at hl 0 rfl) ?_
  refine lv_sipush (v := 300) hx hb dX10_init_50 (by decide) ?_
  refine pw_cnewa (atype := .int) (t0 := 1) (cA := cy 1) (ty := .int) (N' := 300) (a0 := (300, .inl (fun _ => 0))) hx hb (hts (.arrayClass .int) (by decide +kernel)) rfl hG rfl (fun _ h => h) hw hN (fun _ => rfl) (by decide) (by decide) (Nat.le_of_ble_eq_true rfl) (Nat.le_of_ble_eq_true rfl) (Nat.le_of_ble_eq_true rfl) dX10_init_53 (fun q6 L1 f1 H hw hN => ?_)
  refine pw_cputF (ci := 10) (v := .ref q6) (C := RX10) (T := TX10) (N := 19) hx hb hts hi10 tyX10 tyX10_ok nmX10 hown hG hw hN rfl 7 (by decide) (hts (.fieldLink RX10 28 "TongueHouse$Thought" "stack" "[I") (by decide +kernel)) (fun _ h9 => h9) rfl hin rfl rfl rfl (Nat.le_of_ble_eq_true rfl) dX10_init_55 (fun f1 H locs hw hN => ?_)
  refine lv_aload_n hx hb dX10_init_58 rfl (lv_at hl 0 rfl) ?_
  refine lv_sipush (v := 300) hx hb dX10_init_59 (by decide) ?_
  refine pw_cnewa (atype := .int) (t0 := 1) (cA := cy 1) (ty := .int) (N' := 300) (a0 := (300, .inl (fun _ => 0))) hx hb (hts (.arrayClass .int) (by decide +kernel)) rfl hG rfl (fun _ h => h) hw hN (fun _ => rfl) (by decide) (by decide) (Nat.le_of_ble_eq_true rfl) (Nat.le_of_ble_eq_true rfl) (Nat.le_of_ble_eq_true rfl) dX10_init_62 (fun q7 L1 f1 H hw hN => ?_)
  refine pw_cputF (ci := 10) (v := .ref q7) (C := RX10) (T := TX10) (N := 19) hx hb hts hi10 tyX10 tyX10_ok nmX10 hown hG hw hN rfl 8 (by decide) (hts (.fieldLink RX10 31 "TongueHouse$Thought" "inner" "[I") (by decide +kernel)) (fun _ h9 => h9) rfl hin rfl rfl rfl (Nat.le_of_ble_eq_true rfl) dX10_init_64 (fun f1 H locs hw hN => ?_)
  refine lv_aload_n hx hb dX10_init_67 rfl (lv_at hl 0 rfl) ?_
  refine lv_sipush (v := 300) hx hb dX10_init_68 (by decide) ?_
  refine pw_cnewa (atype := .long) (t0 := 2) (cA := cy 2) (ty := .long) (N' := 300) (a0 := (300, .inr (.inl (fun _ => 0)))) hx hb (hts (.arrayClass .long) (by decide +kernel)) rfl hG rfl (fun _ h => h) hw hN (fun _ => rfl) (by decide) (by decide) (Nat.le_of_ble_eq_true rfl) (Nat.le_of_ble_eq_true rfl) (Nat.le_of_ble_eq_true rfl) dX10_init_71 (fun q8 L1 f1 H hw hN => ?_)
  refine pw_cputF (ci := 10) (v := .ref q8) (C := RX10) (T := TX10) (N := 19) hx hb hts hi10 tyX10 tyX10_ok nmX10 hown hG hw hN rfl 10 (by decide) (hts (.fieldLink RX10 34 "TongueHouse$Thought" "openName" "[J") (by decide +kernel)) (fun _ h9 => h9) rfl hin rfl rfl rfl (Nat.le_of_ble_eq_true rfl) dX10_init_73 (fun f1 H locs hw hN => ?_)
  refine lv_aload_n hx hb dX10_init_76 rfl (lv_at hl 0 rfl) ?_
  refine lv_sipush (v := 300) hx hb dX10_init_77 (by decide) ?_
  refine pw_cnewa (atype := .int) (t0 := 1) (cA := cy 1) (ty := .int) (N' := 300) (a0 := (300, .inl (fun _ => 0))) hx hb (hts (.arrayClass .int) (by decide +kernel)) rfl hG rfl (fun _ h => h) hw hN (fun _ => rfl) (by decide) (by decide) (Nat.le_of_ble_eq_true rfl) (Nat.le_of_ble_eq_true rfl) (Nat.le_of_ble_eq_true rfl) dX10_init_80 (fun q9 L1 f1 H hw hN => ?_)
  refine pw_cputF (ci := 10) (v := .ref q9) (C := RX10) (T := TX10) (N := 19) hx hb hts hi10 tyX10 tyX10_ok nmX10 hown hG hw hN rfl 11 (by decide) (hts (.fieldLink RX10 37 "TongueHouse$Thought" "openPart" "[I") (by decide +kernel)) (fun _ h9 => h9) rfl hin rfl rfl rfl (Nat.le_of_ble_eq_true rfl) dX10_init_82 (fun f1 H locs hw hN => ?_)
  refine lv_aload_n hx hb dX10_init_85 rfl (lv_at hl 0 rfl) ?_
  refine lv_sipush (v := 300) hx hb dX10_init_86 (by decide) ?_
  refine pw_cnewa (atype := .int) (t0 := 1) (cA := cy 1) (ty := .int) (N' := 300) (a0 := (300, .inl (fun _ => 0))) hx hb (hts (.arrayClass .int) (by decide +kernel)) rfl hG rfl (fun _ h => h) hw hN (fun _ => rfl) (by decide) (by decide) (Nat.le_of_ble_eq_true rfl) (Nat.le_of_ble_eq_true rfl) (Nat.le_of_ble_eq_true rfl) dX10_init_89 (fun q10 L1 f1 H hw hN => ?_)
  refine pw_cputF (ci := 10) (v := .ref q10) (C := RX10) (T := TX10) (N := 19) hx hb hts hi10 tyX10 tyX10_ok nmX10 hown hG hw hN rfl 12 (by decide) (hts (.fieldLink RX10 40 "TongueHouse$Thought" "openSeen" "[I") (by decide +kernel)) (fun _ h9 => h9) rfl hin rfl rfl rfl (Nat.le_of_ble_eq_true rfl) dX10_init_91 (fun f1 H locs hw hN => ?_)
  refine lv_aload_n hx hb dX10_init_94 rfl (lv_at hl 0 rfl) ?_
  refine lv_sipush (v := 300) hx hb dX10_init_95 (by decide) ?_
  refine pw_cnewa (atype := .int) (t0 := 1) (cA := cy 1) (ty := .int) (N' := 300) (a0 := (300, .inl (fun _ => 0))) hx hb (hts (.arrayClass .int) (by decide +kernel)) rfl hG rfl (fun _ h => h) hw hN (fun _ => rfl) (by decide) (by decide) (Nat.le_of_ble_eq_true rfl) (Nat.le_of_ble_eq_true rfl) (Nat.le_of_ble_eq_true rfl) dX10_init_98 (fun q11 L1 f1 H hw hN => ?_)
  refine pw_cputF (ci := 10) (v := .ref q11) (C := RX10) (T := TX10) (N := 19) hx hb hts hi10 tyX10 tyX10_ok nmX10 hown hG hw hN rfl 13 (by decide) (hts (.fieldLink RX10 43 "TongueHouse$Thought" "openValue" "[I") (by decide +kernel)) (fun _ h9 => h9) rfl hin rfl rfl rfl (Nat.le_of_ble_eq_true rfl) dX10_init_100 (fun f1 H locs hw hN => ?_)
  refine lv_aload_n hx hb dX10_init_103 rfl (lv_at hl 0 rfl) ?_
  refine lv_sipush (v := 300) hx hb dX10_init_104 (by decide) ?_
  refine pw_cnewa (atype := .int) (t0 := 1) (cA := cy 1) (ty := .int) (N' := 300) (a0 := (300, .inl (fun _ => 0))) hx hb (hts (.arrayClass .int) (by decide +kernel)) rfl hG rfl (fun _ h => h) hw hN (fun _ => rfl) (by decide) (by decide) (Nat.le_of_ble_eq_true rfl) (Nat.le_of_ble_eq_true rfl) (Nat.le_of_ble_eq_true rfl) dX10_init_107 (fun q12 L1 f1 H hw hN => ?_)
  refine pw_cputF (ci := 10) (v := .ref q12) (C := RX10) (T := TX10) (N := 19) hx hb hts hi10 tyX10 tyX10_ok nmX10 hown hG hw hN rfl 14 (by decide) (hts (.fieldLink RX10 46 "TongueHouse$Thought" "openLevel" "[I") (by decide +kernel)) (fun _ h9 => h9) rfl hin rfl rfl rfl (Nat.le_of_ble_eq_true rfl) dX10_init_109 (fun f1 H locs hw hN => ?_)
  refine lv_aload_n hx hb dX10_init_112 rfl (lv_at hl 0 rfl) ?_
  refine lv_sipush (v := 301) hx hb dX10_init_113 (by decide) ?_
  refine pw_cnewa (atype := .int) (t0 := 1) (cA := cy 1) (ty := .int) (N' := 301) (a0 := (301, .inl (fun _ => 0))) hx hb (hts (.arrayClass .int) (by decide +kernel)) rfl hG rfl (fun _ h => h) hw hN (fun _ => rfl) (by decide) (by decide) (Nat.le_of_ble_eq_true rfl) (Nat.le_of_ble_eq_true rfl) (Nat.le_of_ble_eq_true rfl) dX10_init_116 (fun q13 L1 f1 H hw hN => ?_)
  refine pw_cputF (ci := 10) (v := .ref q13) (C := RX10) (T := TX10) (N := 19) hx hb hts hi10 tyX10 tyX10_ok nmX10 hown hG hw hN rfl 15 (by decide) (hts (.fieldLink RX10 49 "TongueHouse$Thought" "thing" "[I") (by decide +kernel)) (fun _ h9 => h9) rfl hin rfl rfl rfl (Nat.le_of_ble_eq_true rfl) dX10_init_118 (fun f1 H locs hw hN => ?_)
  refine lv_aload_n hx hb dX10_init_121 rfl (lv_at hl 0 rfl) ?_
  refine lv_aload_n hx hb dX10_init_122 rfl (lv_at hl 1 rfl) ?_
  refine pw_cputF (ci := 10) (v := .ref p1) (C := RX10) (T := TX10) (N := 19) hx hb hts hi10 tyX10 tyX10_ok nmX10 hown hG hw hN rfl 0 (by decide) (hts (.fieldLink RX10 52 "TongueHouse$Thought" "store" "LTongueHouse$Store;") (by decide +kernel)) (fun _ h9 => h9) rfl hin rfl rfl rfl (Nat.le_of_ble_eq_true rfl) dX10_init_123 (fun f1 H locs hw hN => ?_)
  refine W.widen (k := 13) (n := 3841) (Nat.le_of_ble_eq_true rfl) (Nat.le_of_ble_eq_true rfl) ?_
  exact pw_vret hx hb hr hlocks hsz hw ⟨q1, q2, q3, q4, q5, q6, q7, q8, q9, q10, q11, q12, q13, hN⟩ dX10_init_126
