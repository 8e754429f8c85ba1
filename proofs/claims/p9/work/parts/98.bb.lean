theorem bl_X4 : ∀ j, j < 2 → defaultValue (tyX4 j) = vp_V [.null, .int 0] j := by decide +kernel
set_option maxHeartbeats 8000000 in
set_option maxRecDepth 100000 in
/-- TongueHouse$Names(..): 1 cells come -/
theorem c_X4_init (l : Launch) (D : va_G) (cy : Nat → ClassId) (h0 sz : Nat) (L : List Nat) (f : Nat → va_E) (n1 : Int32) (hn1 : ¬ n1 < 0) (N1 : Nat) (hN1 : n1.toNatClampNeg = N1) (hB1 : N1 ≤ 1000000) (ha : h0 ∈ L) (he : f h0 = .inr (4, [.null, .int 0])) : Met l yX4_init wsX4_init ({ frames := 1, cells := 1, slots := N1, locals := 12 }) (pw_Pc D cy [.ref h0, .int n1] sz L f) (va_Qv (fun u : List Nat × (Nat → va_E) => ∃ q1 : Nat, pw_N h0 4 L f u.1 u.2 [.ref q1, .int 0] [(q1, .inl (cy 2, N1, .inr (.inl (fun _ => 0))))]) (pw_B D (pw_A L f sz)) (pw_A L f sz)) 1 (N1) (pw_A L f sz) := by
  refine Met.ofW (cc := cX4_init) (maxL := 2) (ret := none) (by decide) rfl ?_
  intro p e s m args below meth c s₁ B hml hv
  obtain ⟨rfl, hsz, hG, hP, hD0⟩ := hv
  have hx := B.exec
  have hb := B.bytes
  have hr := B.returns
  have hts := atoms_spec (ws := wsX4_init) B.pre
  have hown : s.vm.findClass RX4 = some m.cls := findClass_of_methodNamed B.named
  have hlocks := B.notSynchronized
  have hin : meth.name = "<init>" := (name_of_methodNamed B.named B.method).1
  have hw := pw_start (cy := cy) hsz hP hD0
  have hN := pw_N.rf ha he
  have hl := lv_entry ([.ref h0, .int n1]) (n := 2) (Nat.le_of_ble_eq_true rfl)
  rw [lg_entry_eq]
  generalize (lg_sl ([.ref h0, .int n1]) ++ List.replicate (2 - (lg_sl ([.ref h0, .int n1])).length) Slot.unset).toArray = ls at hl ⊢
  have hl : lv_has ls 2 [(0, .ref h0), (1, .int n1)] := hl
  have hi4 : ∀ w ∈ u_ws RX4 TX4 2, w ∈ wsX4_init := (fun _ h => List.mem_cons_of_mem _ (List.mem_append_right _ h))
  refine lv_aload_n hx hb dX4_init_0 rfl (lv_at hl 0 rfl) ?_
  refine W.objInit hx hb hown (hts (.methodLink RX4 3 objectInit) (by decide +kernel)) (hts (.instanceMethod objectInit) (by decide +kernel)) (hts _ (show Cond.code objectInit ⟨#[0xb1]⟩ 1 none ∈ wsX4_init by decide +kernel)) rfl (by rw [hml]; exact hl.1) rfl dX4_init_1 (Nat.le_of_ble_eq_true rfl) (Nat.le_of_ble_eq_true rfl) ?_
  refine W.eq (g2 := F0 m 4 ls []) rfl ?_
  refine lv_aload_n hx hb dX4_init_4 rfl (lv_at hl 0 rfl) ?_
  refine lv_iload_n hx hb dX4_init_5 rfl (lv_at hl 1 rfl) ?_
  refine pw_cnewa (atype := .long) (t0 := 2) (cA := cy 2) (ty := .long) (N' := N1) (a0 := (N1, .inr (.inl (fun _ => 0)))) hx hb (hts (.arrayClass .long) (by decide +kernel)) rfl hG rfl (fun _ h => h) hw hN (fun _ => rfl) hn1 hN1 (show N1 * 8 ≤ 536870912 by have := hB1; omega) (Nat.le_of_ble_eq_true rfl) (show 0 + N1 ≤ N1 by omega) dX4_init_6 (fun q1 L1 f1 H hw hN => ?_)
  have hN : pw_N h0 4 L f _ _ [.null, .int 0] [(q1, .inl (cy 2, N1, .inr (.inl (fun _ => 0))))] := hN
  refine pw_cputF (ci := 4) (v := .ref q1) (C := RX4) (T := TX4) (N := 2) hx hb hts hi4 tyX4 tyX4_ok nmX4 hown hG hw hN rfl 0 (by decide) (hts (.fieldLink RX4 9 "TongueHouse$Names" "name" "[J") (by decide +kernel)) (fun _ h9 => h9) rfl hin rfl rfl rfl (Nat.le_of_ble_eq_true rfl) dX4_init_8 (fun f1 H locs hw hN => ?_)
  have hN : pw_N h0 4 L f _ _ [.ref q1, .int 0] [(q1, .inl (cy 2, N1, .inr (.inl (fun _ => 0))))] := hN
  refine W.widen (k := 1) (n := N1) (Nat.le_of_ble_eq_true rfl) (by omega) ?_
  exact pw_vret hx hb hr hlocks hsz hw ⟨q1, hN⟩ dX4_init_11
theorem bl_X9 : ∀ j, j < 10 → defaultValue (tyX9 j) = vp_V [.null, .int 0, .null, .null, .int 0, .int 0, .int 0, .int 0, .int 0, .long 0] j := by decide +kernel
set_option maxHeartbeats 8000000 in
set_option maxRecDepth 100000 in
/-- TongueHouse$Text(..): 3 cells come -/
theorem c_X9_init (l : Launch) (D : va_G) (cy : Nat → ClassId) (h0 sz : Nat) (L : List Nat) (f : Nat → va_E) (ha : h0 ∈ L) (he : f h0 = .inr (9, [.null, .int 0, .null, .null, .int 0, .int 0, .int 0, .int 0, .int 0, .long 0])) : Met l yX9_init wsX9_init ({ frames := 1, cells := 3, slots := 1048, locals := 12 }) (pw_Pc D cy [.ref h0] sz L f) (va_Qv (fun u : List Nat × (Nat → va_E) => ∃ q1 q2 q3 : Nat, pw_N h0 9 L f u.1 u.2 [.ref q1, .int 0, .ref q2, .ref q3, .int 0, .int 0, .int 0, .int 0, .int 0, .long 0] [(q1, .inl (cy 0, 1000, .inl (fun _ => 0))), (q2, .inl (cy 1, 24, .inl (fun _ => 0))), (q3, .inl (cy 1, 24, .inl (fun _ => 0)))]) (pw_B D (pw_A L f sz)) (pw_A L f sz)) 3 (1048) (pw_A L f sz) := by
  refine Met.ofW (cc := cX9_init) (maxL := 1) (ret := none) (by decide) rfl ?_
  intro p e s m args below meth c s₁ B hml hv
  obtain ⟨rfl, hsz, hG, hP, hD0⟩ := hv
  have hx := B.exec
  have hb := B.bytes
  have hr := B.returns
  have hts := atoms_spec (ws := wsX9_init) B.pre
  have hown : s.vm.findClass RX9 = some m.cls := findClass_of_methodNamed B.named
  have hlocks := B.notSynchronized
  have hin : meth.name = "<init>" := (name_of_methodNamed B.named B.method).1
  have hw := pw_start (cy := cy) hsz hP hD0
  have hN := pw_N.rf ha he
  have hl := lv_entry ([.ref h0]) (n := 1) (Nat.le_of_ble_eq_true rfl)
  rw [lg_entry_eq]
  generalize (lg_sl ([.ref h0]) ++ List.replicate (1 - (lg_sl ([.ref h0])).length) Slot.unset).toArray = ls at hl ⊢
  have hl : lv_has ls 1 [(0, .ref h0)] := hl
  have hi9 : ∀ w ∈ u_ws RX9 TX9 10, w ∈ wsX9_init := (fun _ h => List.mem_cons_of_mem _ (List.mem_append_right _ h))
  refine lv_aload_n hx hb dX9_init_0 rfl (lv_at hl 0 rfl) ?_
  refine W.objInit hx hb hown (hts (.methodLink RX9 3 objectInit) (by decide +kernel)) (hts (.instanceMethod objectInit) (by decide +kernel)) (hts _ (show Cond.code objectInit ⟨#[0xb1]⟩ 1 none ∈ wsX9_init by decide +kernel)) rfl (by rw [hml]; exact hl.1) rfl dX9_init_1 (Nat.le_of_ble_eq_true rfl) (Nat.le_of_ble_eq_true rfl) ?_
  refine W.eq (g2 := F0 m 4 ls []) rfl ?_
  refine lv_aload_n hx hb dX9_init_4 rfl (lv_at hl 0 rfl) ?_
  refine lv_sipush (v := 1000) hx hb dX9_init_5 (by decide) ?_
  refine pw_cnewa (atype := .byte) (t0 := 0) (cA := cy 0) (ty := .byte) (N' := 1000) (a0 := (1000, .inl (fun _ => 0))) hx hb (hts (.arrayClass .byte) (by decide +kernel)) rfl hG rfl (fun _ h => h) hw hN (fun _ => rfl) (by decide) (by decide) (Nat.le_of_ble_eq_true rfl) (Nat.le_of_ble_eq_true rfl) (Nat.le_of_ble_eq_true rfl) dX9_init_8 (fun q1 L1 f1 H hw hN => ?_)
  have hN : pw_N h0 9 L f _ _ [.null, .int 0, .null, .null, .int 0, .int 0, .int 0, .int 0, .int 0, .long 0] [(q1, .inl (cy 0, 1000, .inl (fun _ => 0)))] := hN
  refine pw_cputF (ci := 9) (v := .ref q1) (C := RX9) (T := TX9) (N := 10) hx hb hts hi9 tyX9 tyX9_ok nmX9 hown hG hw hN rfl 0 (by decide) (hts (.fieldLink RX9 11 "TongueHouse$Text" "bytes" "[B") (by decide +kernel)) (fun _ h9 => h9) rfl hin rfl rfl rfl (Nat.le_of_ble_eq_true rfl) dX9_init_10 (fun f1 H locs hw hN => ?_)
  have hN : pw_N h0 9 L f _ _ [.ref q1, .int 0, .null, .null, .int 0, .int 0, .int 0, .int 0, .int 0, .long 0] [(q1, .inl (cy 0, 1000, .inl (fun _ => 0)))] := hN
  refine lv_aload_n hx hb dX9_init_13 rfl (lv_at hl 0 rfl) ?_
  refine lv_bipush (v := 24) hx hb dX9_init_14 (by decide) ?_
  refine pw_cnewa (atype := .int) (t0 := 1) (cA := cy 1) (ty := .int) (N' := 24) (a0 := (24, .inl (fun _ => 0))) hx hb (hts (.arrayClass .int) (by decide +kernel)) rfl hG rfl (fun _ h => h) hw hN (fun _ => rfl) (by decide) (by decide) (Nat.le_of_ble_eq_true rfl) (Nat.le_of_ble_eq_true rfl) (Nat.le_of_ble_eq_true rfl) dX9_init_16 (fun q2 L1 f1 H hw hN => ?_)
  have hN : pw_N h0 9 L f _ _ [.ref q1, .int 0, .null, .null, .int 0, .int 0, .int 0, .int 0, .int 0, .long 0] [(q1, .inl (cy 0, 1000, .inl (fun _ => 0))), (q2, .inl (cy 1, 24, .inl (fun _ => 0)))] := hN
  refine pw_cputF (ci := 9) (v := .ref q2) (C := RX9) (T := TX9) (N := 10) hx hb hts hi9 tyX9 tyX9_ok nmX9 hown hG hw hN rfl 2 (by decide) (hts (.fieldLink RX9 15 "TongueHouse$Text" "start" "[I") (by decide +kernel)) (fun _ h9 => h9) rfl hin rfl rfl rfl (Nat.le_of_ble_eq_true rfl) dX9_init_18 (fun f1 H locs hw hN => ?_)
  have hN : pw_N h0 9 L f _ _ [.ref q1, .int 0, .ref q2, .null, .int 0, .int 0, .int 0, .int 0, .int 0, .long 0] [(q1, .inl (cy 0, 1000, .inl (fun _ => 0))), (q2, .inl (cy 1, 24, .inl (fun _ => 0)))] := hN
  refine lv_aload_n hx hb dX9_init_21 rfl (lv_at hl 0 rfl) ?_
  refine lv_bipush (v := 24) hx hb dX9_init_22 (by decide) ?_
  refine pw_cnewa (atype := .int) (t0 := 1) (cA := cy 1) (ty := .int) (N' := 24) (a0 := (24, .inl (fun _ => 0))) hx hb (hts (.arrayClass .int) (by decide +kernel)) rfl hG rfl (fun _ h => h) hw hN (fun _ => rfl) (by decide) (by decide) (Nat.le_of_ble_eq_true rfl) (Nat.le_of_ble_eq_true rfl) (Nat.le_of_ble_eq_true rfl) dX9_init_24 (fun q3 L1 f1 H hw hN => ?_)
  have hN : pw_N h0 9 L f _ _ [.ref q1, .int 0, .ref q2, .null, .int 0, .int 0, .int 0, .int 0, .int 0, .long 0] [(q1, .inl (cy 0, 1000, .inl (fun _ => 0))), (q2, .inl (cy 1, 24, .inl (fun _ => 0))), (q3, .inl (cy 1, 24, .inl (fun _ => 0)))] := hN
  refine pw_cputF (ci := 9) (v := .ref q3) (C := RX9) (T := TX9) (N := 10) hx hb hts hi9 tyX9 tyX9_ok nmX9 hown hG hw hN rfl 3 (by decide) (hts (.fieldLink RX9 19 "TongueHouse$Text" "len" "[I") (by decide +kernel)) (fun _ h9 => h9) rfl hin rfl rfl rfl (Nat.le_of_ble_eq_true rfl) dX9_init_26 (fun f1 H locs hw hN => ?_)
  have hN : pw_N h0 9 L f _ _ [.ref q1, .int 0, .ref q2, .ref q3, .int 0, .int 0, .int 0, .int 0, .int 0, .long 0] [(q1, .inl (cy 0, 1000, .inl (fun _ => 0))), (q2, .inl (cy 1, 24, .inl (fun _ => 0))), (q3, .inl (cy 1, 24, .inl (fun _ => 0)))] := hN
  refine W.widen (k := 3) (n := 1048) (Nat.le_of_ble_eq_true rfl) (Nat.le_of_ble_eq_true rfl) ?_
  exact pw_vret hx hb hr hlocks hsz hw ⟨q1, q2, q3, hN⟩ dX9_init_29
