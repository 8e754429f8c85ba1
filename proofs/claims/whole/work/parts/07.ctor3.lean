theorem bl_X8 : ∀ j, j < 21 → defaultValue (tyX8 j) = vp_V [.null, .null, .null, .null, .null, .int 0, .null, .null, .null, .null, .null, .null, .null, .int 0, .null, .null, .null, .int 0, .int 0, .null, .null] j := by decide +kernel
set_option maxHeartbeats 4000000 in
set_option maxRecDepth 100000 in
/-- TongueHouse$Store(..): 21 cells come -/
theorem c_X8_init (l : Launch) (D : va_G) (cy : Nat → ClassId) (h0 sz : Nat) (L : List Nat) (f : Nat → va_E) (ha : h0 ∈ L) (he : f h0 = .inr (8, [.null, .null, .null, .null, .null, .int 0, .null, .null, .null, .null, .null, .null, .null, .int 0, .null, .null, .null, .int 0, .int 0, .null, .null])) : Met l yX8_init wsX8_init ({ frames := 2, cells := 21, slots := 21019, locals := 33 }) (pw_Pc D cy [.ref h0] sz L f) (va_Qv (fun u : List Nat × (Nat → va_E) => ∃ q1 q2 q3 q4 q5 q6 q7 q8 q9 q10 q11 q12 q13 q14 q15 q16 q17 q18 q19 q20 q21 : Nat, pw_N h0 8 L f u.1 u.2 [.ref q1, .ref q3, .ref q5, .ref q7, .ref q9, .int (-1), .ref q10, .ref q11, .ref q12, .ref q13, .ref q14, .ref q15, .ref q16, .int 0, .ref q17, .ref q18, .ref q19, .int 0, .int 0, .ref q20, .ref q21] [(q1, .inr (4, [.ref q2, .int 0])), (q2, .inl (cy 2, 32, .inr (.inl (fun _ => 0)))), (q3, .inr (4, [.ref q4, .int 0])), (q4, .inl (cy 2, 96, .inr (.inl (fun _ => 0)))), (q5, .inr (4, [.ref q6, .int 0])), (q6, .inl (cy 2, 8, .inr (.inl (fun _ => 0)))), (q7, .inr (4, [.ref q8, .int 0])), (q8, .inl (cy 2, 8, .inr (.inl (fun _ => 0)))), (q9, .inl (cy 5, 8, .inr (.inr (.inr (.inr (fun _ => none)))))), (q10, .inl (cy 1, 96, .inl (fun _ => 0))), (q11, .inl (cy 1, 96, .inl (fun _ => 0))), (q12, .inl (cy 1, 384, .inl (fun _ => 0))), (q13, .inl (cy 1, 96, .inl (fun _ => 0))), (q14, .inl (cy 1, 96, .inl (fun _ => 0))), (q15, .inl (cy 1, 3840, .inl (fun _ => 0))), (q16, .inl (cy 2, 3840, .inr (.inl (fun _ => 0)))), (q17, .inl (cy 2, 64, .inr (.inl (fun _ => 0)))), (q18, .inl (cy 1, 128, .inl (fun _ => 0))), (q19, .inl (cy 0, 12000, .inl (fun _ => 0))), (q20, .inl (cy 1, 159, .inl (fun _ => 0))), (q21, .inl (cy 1, 60, .inl (fun _ => 0)))]) (pw_B D (pw_A L f sz)) (pw_A L f sz)) 21 (21019) (pw_A L f sz) := by
  refine Met.ofW (cc := cX8_init) (maxL := 1) (ret := none) (by decide) rfl ?_
  intro p e s m args below meth c s₁ B hml hv
  obtain ⟨rfl, hsz, hG, hP, hD0⟩ := hv
  have hx := B.exec
  have hb := B.bytes
  have hr := B.returns
  have hts := atoms_spec (ws := wsX8_init) B.pre
  have hown : s.vm.findClass RX8 = some m.cls := findClass_of_methodNamed B.named
  have hlocks := B.notSynchronized
  have hin : meth.name = "<init>" := (name_of_methodNamed B.named B.method).1
  have hw := pw_start (cy := cy) hsz hP hD0
  have hN := pw_N.rf ha he
  have hl := lv_entry ([.ref h0]) (n := 1) (Nat.le_of_ble_eq_true rfl)
  rw [lg_entry_eq]
  generalize (lg_sl ([.ref h0]) ++ List.replicate (1 - (lg_sl ([.ref h0])).length) Slot.unset).toArray = ls at hl ⊢
  have hl : lv_has ls 1 [(0, .ref h0)] := hl
  have hi4 : ∀ w ∈ u_ws RX4 TX4 2, w ∈ wsX8_init := (fun _ h => List.mem_cons_of_mem _ (List.mem_append_left _ (List.mem_append_right _ h)))
  have hi8 : ∀ w ∈ u_ws RX8 TX8 21, w ∈ wsX8_init := (fun _ h => List.mem_cons_of_mem _ (List.mem_append_right _ h))
  refine lv_aload_n hx hb dX8_init_0 rfl (lv_at hl 0 rfl) ?_
  refine W.objInit hx hb hown (hts (.methodLink RX8 7 objectInit) (by decide +kernel)) (hts (.instanceMethod objectInit) (by decide +kernel)) (hts _ (show Cond.code objectInit ⟨#[0xb1]⟩ 1 none ∈ wsX8_init by decide +kernel)) rfl (by rw [hml]; exact hl.1) rfl dX8_init_1 (Nat.le_of_ble_eq_true rfl) (Nat.le_of_ble_eq_true rfl) ?_
  refine W.eq (g2 := F0 m 4 ls []) rfl ?_
  refine lv_aload_n hx hb dX8_init_4 rfl (lv_at hl 0 rfl) ?_
  refine pw_cnew (cj := 4) (C := RX4) (T := TX4) (N := 2) (gs := [.null, .int 0]) hx hb hts hi4 tyX4 tyX4_ok hown (hts (.classLink RX8 13 RX4) (by decide +kernel)) (hts (.instantiable RX4 2) (by decide +kernel)) (hts (.initialized RX4) (by decide +kernel)) hG hw hN rfl bl_X4 (Nat.le_of_ble_eq_true rfl) (Nat.le_of_ble_eq_true rfl) dX8_init_5 (fun q1 L1 f1 H hw hN hq hqe => ?_)
  refine lv_dup hx hb dX8_init_8 rfl ?_
  refine lv_bipush (v := 32) hx hb dX8_init_9 (by decide) ?_
  refine pw_callv hw (va_runI (As := [.int 32]) (rest := [.ref q1, .ref h0]) ⟨hx, hb, hml, hown, hts⟩ (c_X4_init l D cy q1 H.size _ _ 32 (by decide) 32 (by decide) (Nat.le_of_ble_eq_true rfl) hq hqe) (cwI 1 hts gX8_init_X4_init rfl rfl rfl (hts (.initialized RX4) (by decide +kernel)) (hts (.methodLink RX8 15 yX4_init) (by decide +kernel)) (hts (.instanceMethod yX4_init) (by decide +kernel)) rfl (by decide +kernel) ⟨Nat.le_of_ble_eq_true rfl, Nat.le_of_ble_eq_true rfl⟩) (pw_pre hG hw) rfl rfl hl.1 rfl (lv_room (Nat.le_of_ble_eq_true rfl)) dX8_init_11 ⟨Nat.le_of_ble_eq_true rfl, Nat.le_of_ble_eq_true rfl⟩) (fun L1 f1 H locs hw hS => ?_)
  obtain ⟨q2, h2⟩ := hS
  have hN := hN.call h2 (pw_nd hw)
  refine pw_cputF (ci := 8) (v := .ref q1) (C := RX8) (T := TX8) (N := 21) hx hb hts hi8 tyX8 tyX8_ok nmX8 hown hG hw hN rfl 0 (by decide) (hts (.fieldLink RX8 18 "TongueHouse$Store" "kinds" "LTongueHouse$Names;") (by decide +kernel)) (fun _ h9 => h9) rfl hin rfl rfl rfl (Nat.le_of_ble_eq_true rfl) dX8_init_14 (fun f1 H locs hw hN => ?_)
  refine lv_aload_n hx hb dX8_init_17 rfl (lv_at hl 0 rfl) ?_
  refine pw_cnew (cj := 4) (C := RX4) (T := TX4) (N := 2) (gs := [.null, .int 0]) hx hb hts hi4 tyX4 tyX4_ok hown (hts (.classLink RX8 13 RX4) (by decide +kernel)) (hts (.instantiable RX4 2) (by decide +kernel)) (hts (.initialized RX4) (by decide +kernel)) hG hw hN rfl bl_X4 (Nat.le_of_ble_eq_true rfl) (Nat.le_of_ble_eq_true rfl) dX8_init_18 (fun q3 L1 f1 H hw hN hq hqe => ?_)
  refine lv_dup hx hb dX8_init_21 rfl ?_
  refine lv_bipush (v := 96) hx hb dX8_init_22 (by decide) ?_
  refine pw_callv hw (va_runI (As := [.int 96]) (rest := [.ref q3, .ref h0]) ⟨hx, hb, hml, hown, hts⟩ (c_X4_init l D cy q3 H.size _ _ 96 (by decide) 96 (by decide) (Nat.le_of_ble_eq_true rfl) hq hqe) (cwI 1 hts gX8_init_X4_init rfl rfl rfl (hts (.initialized RX4) (by decide +kernel)) (hts (.methodLink RX8 15 yX4_init) (by decide +kernel)) (hts (.instanceMethod yX4_init) (by decide +kernel)) rfl (by decide +kernel) ⟨Nat.le_of_ble_eq_true rfl, Nat.le_of_ble_eq_true rfl⟩) (pw_pre hG hw) rfl rfl hl.1 rfl (lv_room (Nat.le_of_ble_eq_true rfl)) dX8_init_24 ⟨Nat.le_of_ble_eq_true rfl, Nat.le_of_ble_eq_true rfl⟩) (fun L1 f1 H locs hw hS => ?_)
  obtain ⟨q4, h2⟩ := hS
  have hN := hN.call h2 (pw_nd hw)
  refine pw_cputF (ci := 8) (v := .ref q3) (C := RX8) (T := TX8) (N := 21) hx hb hts hi8 tyX8 tyX8_ok nmX8 hown hG hw hN rfl 1 (by decide) (hts (.fieldLink RX8 22 "TongueHouse$Store" "funs" "LTongueHouse$Names;") (by decide +kernel)) (fun _ h9 => h9) rfl hin rfl rfl rfl (Nat.le_of_ble_eq_true rfl) dX8_init_27 (fun f1 H locs hw hN => ?_)
  refine lv_aload_n hx hb dX8_init_30 rfl (lv_at hl 0 rfl) ?_
  refine pw_cnew (cj := 4) (C := RX4) (T := TX4) (N := 2) (gs := [.null, .int 0]) hx hb hts hi4 tyX4 tyX4_ok hown (hts (.classLink RX8 13 RX4) (by decide +kernel)) (hts (.instantiable RX4 2) (by decide +kernel)) (hts (.initialized RX4) (by decide +kernel)) hG hw hN rfl bl_X4 (Nat.le_of_ble_eq_true rfl) (Nat.le_of_ble_eq_true rfl) dX8_init_31 (fun q5 L1 f1 H hw hN hq hqe => ?_)
  refine lv_dup hx hb dX8_init_34 rfl ?_
  refine lv_bipush (v := 8) hx hb dX8_init_35 (by decide) ?_
  refine pw_callv hw (va_runI (As := [.int 8]) (rest := [.ref q5, .ref h0]) ⟨hx, hb, hml, hown, hts⟩ (c_X4_init l D cy q5 H.size _ _ 8 (by decide) 8 (by decide) (Nat.le_of_ble_eq_true rfl) hq hqe) (cwI 1 hts gX8_init_X4_init rfl rfl rfl (hts (.initialized RX4) (by decide +kernel)) (hts (.methodLink RX8 15 yX4_init) (by decide +kernel)) (hts (.instanceMethod yX4_init) (by decide +kernel)) rfl (by decide +kernel) ⟨Nat.le_of_ble_eq_true rfl, Nat.le_of_ble_eq_true rfl⟩) (pw_pre hG hw) rfl rfl hl.1 rfl (lv_room (Nat.le_of_ble_eq_true rfl)) dX8_init_37 ⟨Nat.le_of_ble_eq_true rfl, Nat.le_of_ble_eq_true rfl⟩) (fun L1 f1 H locs hw hS => ?_)
  obtain ⟨q6, h2⟩ := hS
  have hN := hN.call h2 (pw_nd hw)
  refine pw_cputF (ci := 8) (v := .ref q5) (C := RX8) (T := TX8) (N := 21) hx hb hts hi8 tyX8 tyX8_ok nmX8 hown hG hw hN rfl 2 (by decide) (hts (.fieldLink RX8 25 "TongueHouse$Store" "things" "LTongueHouse$Names;") (by decide +kernel)) (fun _ h9 => h9) rfl hin rfl rfl rfl (Nat.le_of_ble_eq_true rfl) dX8_init_40 (fun f1 H locs hw hN => ?_)
  refine lv_aload_n hx hb dX8_init_43 rfl (lv_at hl 0 rfl) ?_
  refine pw_cnew (cj := 4) (C := RX4) (T := TX4) (N := 2) (gs := [.null, .int 0]) hx hb hts hi4 tyX4 tyX4_ok hown (hts (.classLink RX8 13 RX4) (by decide +kernel)) (hts (.instantiable RX4 2) (by decide +kernel)) (hts (.initialized RX4) (by decide +kernel)) hG hw hN rfl bl_X4 (Nat.le_of_ble_eq_true rfl) (Nat.le_of_ble_eq_true rfl) dX8_init_44 (fun q7 L1 f1 H hw hN hq hqe => ?_)
  refine lv_dup hx hb dX8_init_47 rfl ?_
  refine lv_bipush (v := 8) hx hb dX8_init_48 (by decide) ?_
  refine pw_callv hw (va_runI (As := [.int 8]) (rest := [.ref q7, .ref h0]) ⟨hx, hb, hml, hown, hts⟩ (c_X4_init l D cy q7 H.size _ _ 8 (by decide) 8 (by decide) (Nat.le_of_ble_eq_true rfl) hq hqe) (cwI 1 hts gX8_init_X4_init rfl rfl rfl (hts (.initialized RX4) (by decide +kernel)) (hts (.methodLink RX8 15 yX4_init) (by decide +kernel)) (hts (.instanceMethod yX4_init) (by decide +kernel)) rfl (by decide +kernel) ⟨Nat.le_of_ble_eq_true rfl, Nat.le_of_ble_eq_true rfl⟩) (pw_pre hG hw) rfl rfl hl.1 rfl (lv_room (Nat.le_of_ble_eq_true rfl)) dX8_init_50 ⟨Nat.le_of_ble_eq_true rfl, Nat.le_of_ble_eq_true rfl⟩) (fun L1 f1 H locs hw hS => ?_)
  obtain ⟨q8, h2⟩ := hS
  have hN := hN.call h2 (pw_nd hw)
  refine pw_cputF (ci := 8) (v := .ref q7) (C := RX8) (T := TX8) (N := 21) hx hb hts hi8 tyX8 tyX8_ok nmX8 hown hG hw hN rfl 3 (by decide) (hts (.fieldLink RX8 28 "TongueHouse$Store" "tongueNames" "LTongueHouse$Names;") (by decide +kernel)) (fun _ h9 => h9) rfl hin rfl rfl rfl (Nat.le_of_ble_eq_true rfl) dX8_init_53 (fun f1 H locs hw hN => ?_)
  refine lv_aload_n hx hb dX8_init_56 rfl (lv_at hl 0 rfl) ?_
  refine lv_bipush (v := 8) hx hb dX8_init_57 (by decide) ?_
  refine pw_cnewq (t0 := 5) (cA := cy 5) (C := RX11) (N' := 8) hx hb hown (hts (.classLink RX8 3 RX11) (by decide +kernel)) hG.2.2.2 hG rfl hw hN (by decide) (by decide) (Nat.le_of_ble_eq_true rfl) (Nat.le_of_ble_eq_true rfl) (Nat.le_of_ble_eq_true rfl) dX8_init_59 (fun q9 L1 f1 H hw hN => ?_)
  refine pw_cputF (ci := 8) (v := .ref q9) (C := RX8) (T := TX8) (N := 21) hx hb hts hi8 tyX8 tyX8_ok nmX8 hown hG hw hN rfl 4 (by decide) (hts (.fieldLink RX8 31 "TongueHouse$Store" "tongues" "[LTongueHouse$Tongue;") (by decide +kernel)) (fun _ h9 => h9) rfl hin rfl rfl rfl (Nat.le_of_ble_eq_true rfl) dX8_init_62 (fun f1 H locs hw hN => ?_)
  refine lv_aload_n hx hb dX8_init_65 rfl (lv_at hl 0 rfl) ?_
  refine lv_iconst (v := -1) hx hb dX8_init_66 (by decide) ?_
  refine pw_cput (ci := 8) (v := .int (-1)) (C := RX8) (T := TX8) (N := 21) hx hb hts hi8 tyX8 tyX8_ok nmX8 hown hG hw hN rfl 5 (by decide) (hts (.fieldLink RX8 35 "TongueHouse$Store" "current" "I") (by decide +kernel)) (fun _ h9 => h9) rfl rfl rfl (Nat.le_of_ble_eq_true rfl) dX8_init_67 (fun f1 H locs hw hN => ?_)
  refine lv_aload_n hx hb dX8_init_70 rfl (lv_at hl 0 rfl) ?_
  refine lv_bipush (v := 96) hx hb dX8_init_71 (by decide) ?_
  refine pw_cnewa (atype := .int) (t0 := 1) (cA := cy 1) (ty := .int) (N' := 96) (a0 := (96, .inl (fun _ => 0))) hx hb (hts (.arrayClass .int) (by decide +kernel)) rfl hG rfl (fun _ h => h) hw hN (fun _ => rfl) (by decide) (by decide) (Nat.le_of_ble_eq_true rfl) (Nat.le_of_ble_eq_true rfl) (Nat.le_of_ble_eq_true rfl) dX8_init_73 (fun q10 L1 f1 H hw hN => ?_)
  refine pw_cputF (ci := 8) (v := .ref q10) (C := RX8) (T := TX8) (N := 21) hx hb hts hi8 tyX8 tyX8_ok nmX8 hown hG hw hN rfl 6 (by decide) (hts (.fieldLink RX8 39 "TongueHouse$Store" "funKind" "[I") (by decide +kernel)) (fun _ h9 => h9) rfl hin rfl rfl rfl (Nat.le_of_ble_eq_true rfl) dX8_init_75 (fun f1 H locs hw hN => ?_)
  refine lv_aload_n hx hb dX8_init_78 rfl (lv_at hl 0 rfl) ?_
  refine lv_bipush (v := 96) hx hb dX8_init_79 (by decide) ?_
  refine pw_cnewa (atype := .int) (t0 := 1) (cA := cy 1) (ty := .int) (N' := 96) (a0 := (96, .inl (fun _ => 0))) hx hb (hts (.arrayClass .int) (by decide +kernel)) rfl hG rfl (fun _ h => h) hw hN (fun _ => rfl) (by decide) (by decide) (Nat.le_of_ble_eq_true rfl) (Nat.le_of_ble_eq_true rfl) (Nat.le_of_ble_eq_true rfl) dX8_init_81 (fun q11 L1 f1 H hw hN => ?_)
  refine pw_cputF (ci := 8) (v := .ref q11) (C := RX8) (T := TX8) (N := 21) hx hb hts hi8 tyX8 tyX8_ok nmX8 hown hG hw hN rfl 7 (by decide) (hts (.fieldLink RX8 43 "TongueHouse$Store" "funArity" "[I") (by decide +kernel)) (fun _ h9 => h9) rfl hin rfl rfl rfl (Nat.le_of_ble_eq_true rfl) dX8_init_83 (fun f1 H locs hw hN => ?_)
  refine lv_aload_n hx hb dX8_init_86 rfl (lv_at hl 0 rfl) ?_
  refine lv_sipush (v := 384) hx hb dX8_init_87 (by decide) ?_
  refine pw_cnewa (atype := .int) (t0 := 1) (cA := cy 1) (ty := .int) (N' := 384) (a0 := (384, .inl (fun _ => 0))) hx hb (hts (.arrayClass .int) (by decide +kernel)) rfl hG rfl (fun _ h => h) hw hN (fun _ => rfl) (by decide) (by decide) (Nat.le_of_ble_eq_true rfl) (Nat.le_of_ble_eq_true rfl) (Nat.le_of_ble_eq_true rfl) dX8_init_90 (fun q12 L1 f1 H hw hN => ?_)
  refine pw_cputF (ci := 8) (v := .ref q12) (C := RX8) (T := TX8) (N := 21) hx hb hts hi8 tyX8 tyX8_ok nmX8 hown hG hw hN rfl 8 (by decide) (hts (.fieldLink RX8 46 "TongueHouse$Store" "funArgs" "[I") (by decide +kernel)) (fun _ h9 => h9) rfl hin rfl rfl rfl (Nat.le_of_ble_eq_true rfl) dX8_init_92 (fun f1 H locs hw hN => ?_)
  refine lv_aload_n hx hb dX8_init_95 rfl (lv_at hl 0 rfl) ?_
  refine lv_bipush (v := 96) hx hb dX8_init_96 (by decide) ?_
  refine pw_cnewa (atype := .int) (t0 := 1) (cA := cy 1) (ty := .int) (N' := 96) (a0 := (96, .inl (fun _ => 0))) hx hb (hts (.arrayClass .int) (by decide +kernel)) rfl hG rfl (fun _ h => h) hw hN (fun _ => rfl) (by decide) (by decide) (Nat.le_of_ble_eq_true rfl) (Nat.le_of_ble_eq_true rfl) (Nat.le_of_ble_eq_true rfl) dX8_init_98 (fun q13 L1 f1 H hw hN => ?_)
  refine pw_cputF (ci := 8) (v := .ref q13) (C := RX8) (T := TX8) (N := 21) hx hb hts hi8 tyX8 tyX8_ok nmX8 hown hG hw hN rfl 9 (by decide) (hts (.fieldLink RX8 49 "TongueHouse$Store" "funCost" "[I") (by decide +kernel)) (fun _ h9 => h9) rfl hin rfl rfl rfl (Nat.le_of_ble_eq_true rfl) dX8_init_100 (fun f1 H locs hw hN => ?_)
  refine lv_aload_n hx hb dX8_init_103 rfl (lv_at hl 0 rfl) ?_
  refine lv_bipush (v := 96) hx hb dX8_init_104 (by decide) ?_
  refine pw_cnewa (atype := .int) (t0 := 1) (cA := cy 1) (ty := .int) (N' := 96) (a0 := (96, .inl (fun _ => 0))) hx hb (hts (.arrayClass .int) (by decide +kernel)) rfl hG rfl (fun _ h => h) hw hN (fun _ => rfl) (by decide) (by decide) (Nat.le_of_ble_eq_true rfl) (Nat.le_of_ble_eq_true rfl) (Nat.le_of_ble_eq_true rfl) dX8_init_106 (fun q14 L1 f1 H hw hN => ?_)
  refine pw_cputF (ci := 8) (v := .ref q14) (C := RX8) (T := TX8) (N := 21) hx hb hts hi8 tyX8 tyX8_ok nmX8 hown hG hw hN rfl 10 (by decide) (hts (.fieldLink RX8 52 "TongueHouse$Store" "meanSize" "[I") (by decide +kernel)) (fun _ h9 => h9) rfl hin rfl rfl rfl (Nat.le_of_ble_eq_true rfl) dX8_init_108 (fun f1 H locs hw hN => ?_)
  refine lv_aload_n hx hb dX8_init_111 rfl (lv_at hl 0 rfl) ?_
  refine lv_sipush (v := 3840) hx hb dX8_init_112 (by decide) ?_
  refine pw_cnewa (atype := .int) (t0 := 1) (cA := cy 1) (ty := .int) (N' := 3840) (a0 := (3840, .inl (fun _ => 0))) hx hb (hts (.arrayClass .int) (by decide +kernel)) rfl hG rfl (fun _ h => h) hw hN (fun _ => rfl) (by decide) (by decide) (Nat.le_of_ble_eq_true rfl) (Nat.le_of_ble_eq_true rfl) (Nat.le_of_ble_eq_true rfl) dX8_init_115 (fun q15 L1 f1 H hw hN => ?_)
  refine pw_cputF (ci := 8) (v := .ref q15) (C := RX8) (T := TX8) (N := 21) hx hb hts hi8 tyX8 tyX8_ok nmX8 hown hG hw hN rfl 11 (by decide) (hts (.fieldLink RX8 55 "TongueHouse$Store" "meanOp" "[I") (by decide +kernel)) (fun _ h9 => h9) rfl hin rfl rfl rfl (Nat.le_of_ble_eq_true rfl) dX8_init_117 (fun f1 H locs hw hN => ?_)
  refine lv_aload_n hx hb dX8_init_120 rfl (lv_at hl 0 rfl) ?_
  refine lv_sipush (v := 3840) hx hb dX8_init_121 (by decide) ?_
  refine pw_cnewa (atype := .long) (t0 := 2) (cA := cy 2) (ty := .long) (N' := 3840) (a0 := (3840, .inr (.inl (fun _ => 0)))) hx hb (hts (.arrayClass .long) (by decide +kernel)) rfl hG rfl (fun _ h => h) hw hN (fun _ => rfl) (by decide) (by decide) (Nat.le_of_ble_eq_true rfl) (Nat.le_of_ble_eq_true rfl) (Nat.le_of_ble_eq_true rfl) dX8_init_124 (fun q16 L1 f1 H hw hN => ?_)
  refine pw_cputF (ci := 8) (v := .ref q16) (C := RX8) (T := TX8) (N := 21) hx hb hts hi8 tyX8 tyX8_ok nmX8 hown hG hw hN rfl 12 (by decide) (hts (.fieldLink RX8 58 "TongueHouse$Store" "meanName" "[J") (by decide +kernel)) (fun _ h9 => h9) rfl hin rfl rfl rfl (Nat.le_of_ble_eq_true rfl) dX8_init_126 (fun f1 H locs hw hN => ?_)
  refine lv_aload_n hx hb dX8_init_129 rfl (lv_at hl 0 rfl) ?_
  refine lv_bipush (v := 64) hx hb dX8_init_130 (by decide) ?_
  refine pw_cnewa (atype := .long) (t0 := 2) (cA := cy 2) (ty := .long) (N' := 64) (a0 := (64, .inr (.inl (fun _ => 0)))) hx hb (hts (.arrayClass .long) (by decide +kernel)) rfl hG rfl (fun _ h => h) hw hN (fun _ => rfl) (by decide) (by decide) (Nat.le_of_ble_eq_true rfl) (Nat.le_of_ble_eq_true rfl) (Nat.le_of_ble_eq_true rfl) dX8_init_132 (fun q17 L1 f1 H hw hN => ?_)
  refine pw_cputF (ci := 8) (v := .ref q17) (C := RX8) (T := TX8) (N := 21) hx hb hts hi8 tyX8 tyX8_ok nmX8 hown hG hw hN rfl 14 (by decide) (hts (.fieldLink RX8 62 "TongueHouse$Store" "factName" "[J") (by decide +kernel)) (fun _ h9 => h9) rfl hin rfl rfl rfl (Nat.le_of_ble_eq_true rfl) dX8_init_134 (fun f1 H locs hw hN => ?_)
  refine lv_aload_n hx hb dX8_init_137 rfl (lv_at hl 0 rfl) ?_
  refine lv_sipush (v := 128) hx hb dX8_init_138 (by decide) ?_
  refine pw_cnewa (atype := .int) (t0 := 1) (cA := cy 1) (ty := .int) (N' := 128) (a0 := (128, .inl (fun _ => 0))) hx hb (hts (.arrayClass .int) (by decide +kernel)) rfl hG rfl (fun _ h => h) hw hN (fun _ => rfl) (by decide) (by decide) (Nat.le_of_ble_eq_true rfl) (Nat.le_of_ble_eq_true rfl) (Nat.le_of_ble_eq_true rfl) dX8_init_141 (fun q18 L1 f1 H hw hN => ?_)
  refine pw_cputF (ci := 8) (v := .ref q18) (C := RX8) (T := TX8) (N := 21) hx hb hts hi8 tyX8 tyX8_ok nmX8 hown hG hw hN rfl 15 (by decide) (hts (.fieldLink RX8 65 "TongueHouse$Store" "factThings" "[I") (by decide +kernel)) (fun _ h9 => h9) rfl hin rfl rfl rfl (Nat.le_of_ble_eq_true rfl) dX8_init_143 (fun f1 H locs hw hN => ?_)
  refine lv_aload_n hx hb dX8_init_146 rfl (lv_at hl 0 rfl) ?_
  refine lv_sipush (v := 12000) hx hb dX8_init_147 (by decide) ?_
  refine pw_cnewa (atype := .byte) (t0 := 0) (cA := cy 0) (ty := .byte) (N' := 12000) (a0 := (12000, .inl (fun _ => 0))) hx hb (hts (.arrayClass .byte) (by decide +kernel)) rfl hG rfl (fun _ h => h) hw hN (fun _ => rfl) (by decide) (by decide) (Nat.le_of_ble_eq_true rfl) (Nat.le_of_ble_eq_true rfl) (Nat.le_of_ble_eq_true rfl) dX8_init_150 (fun q19 L1 f1 H hw hN => ?_)
  refine pw_cputF (ci := 8) (v := .ref q19) (C := RX8) (T := TX8) (N := 21) hx hb hts hi8 tyX8 tyX8_ok nmX8 hown hG hw hN rfl 16 (by decide) (hts (.fieldLink RX8 68 "TongueHouse$Store" "pool" "[B") (by decide +kernel)) (fun _ h9 => h9) rfl hin rfl rfl rfl (Nat.le_of_ble_eq_true rfl) dX8_init_152 (fun f1 H locs hw hN => ?_)
  refine lv_aload_n hx hb dX8_init_155 rfl (lv_at hl 0 rfl) ?_
  refine lv_sipush (v := 159) hx hb dX8_init_156 (by decide) ?_
  refine pw_cnewa (atype := .int) (t0 := 1) (cA := cy 1) (ty := .int) (N' := 159) (a0 := (159, .inl (fun _ => 0))) hx hb (hts (.arrayClass .int) (by decide +kernel)) rfl hG rfl (fun _ h => h) hw hN (fun _ => rfl) (by decide) (by decide) (Nat.le_of_ble_eq_true rfl) (Nat.le_of_ble_eq_true rfl) (Nat.le_of_ble_eq_true rfl) dX8_init_159 (fun q20 L1 f1 H hw hN => ?_)
  refine pw_cputF (ci := 8) (v := .ref q20) (C := RX8) (T := TX8) (N := 21) hx hb hts hi8 tyX8 tyX8_ok nmX8 hown hG hw hN rfl 19 (by decide) (hts (.fieldLink RX8 72 "TongueHouse$Store" "marks" "[I") (by decide +kernel)) (fun _ h9 => h9) rfl hin rfl rfl rfl (Nat.le_of_ble_eq_true rfl) dX8_init_161 (fun f1 H locs hw hN => ?_)
  refine lv_aload_n hx hb dX8_init_164 rfl (lv_at hl 0 rfl) ?_
  refine lv_bipush (v := 60) hx hb dX8_init_165 (by decide) ?_
  refine pw_cnewa (atype := .int) (t0 := 1) (cA := cy 1) (ty := .int) (N' := 60) (a0 := (60, .inl (fun _ => 0))) hx hb (hts (.arrayClass .int) (by decide +kernel)) rfl hG rfl (fun _ h => h) hw hN (fun _ => rfl) (by decide) (by decide) (Nat.le_of_ble_eq_true rfl) (Nat.le_of_ble_eq_true rfl) (Nat.le_of_ble_eq_true rfl) dX8_init_167 (fun q21 L1 f1 H hw hN => ?_)
  refine pw_cputF (ci := 8) (v := .ref q21) (C := RX8) (T := TX8) (N := 21) hx hb hts hi8 tyX8 tyX8_ok nmX8 hown hG hw hN rfl 20 (by decide) (hts (.fieldLink RX8 75 "TongueHouse$Store" "stack" "[I") (by decide +kernel)) (fun _ h9 => h9) rfl hin rfl rfl rfl (Nat.le_of_ble_eq_true rfl) dX8_init_169 (fun f1 H locs hw hN => ?_)
  refine W.widen (k := 21) (n := 21019) (Nat.le_of_ble_eq_true rfl) (Nat.le_of_ble_eq_true rfl) ?_
  exact pw_vret hx hb hr hlocks hsz hw ⟨q1, q2, q3, q4, q5, q6, q7, q8, q9, q10, q11, q12, q13, q14, q15, q16, q17, q18, q19, q20, q21, hN⟩ dX8_init_172
