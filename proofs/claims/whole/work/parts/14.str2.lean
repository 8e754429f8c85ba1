-- String.coder()
set_option maxHeartbeats 4000000 in
set_option maxRecDepth 100000 in
theorem c_J0_coder_7d493 (l : Launch) (D : va_G) (cy : Nat → ClassId) (q v n : Nat) (b : Nat → Int32) (sz : Nat) (L : List Nat) (f : Nat → va_E) : Met l yJ0_coder_7d493 wsJ0_coder_7d493 ({ frames := 0, cells := 0, slots := 0, locals := 0 }) (py_Pc D cy q v n b [.ref q] sz L f) (va_Qi (fun (r : Int32) (u : List Nat × (Nat → va_E)) => r = 0 ∧ u = (L, f)) (pw_B D (pw_A L f sz)) (pw_A L f sz)) 0 0 (pw_A L f sz) := by
  refine Met.ofW (cc := cJ0_coder_7d493) (maxL := 1) (ret := some .byte) (by decide) rfl ?_
  intro p e s m args below meth c s₁ B hml hv
  obtain ⟨rfl, hsz, hG, hY, hP, hD0⟩ := hv
  have hx := B.exec
  have hb := B.bytes
  have hr := B.returns
  have hts := atoms_spec (ws := wsJ0_coder_7d493) B.pre
  have hown : s.vm.findClass RJ0 = some m.cls := findClass_of_methodNamed B.named
  have hlocks := B.notSynchronized
  have hw := pw_start (cy := cy) hsz hP hD0
  have hl0 := lv_entry ([.ref q]) (n := 1) (Nat.le_of_ble_eq_true rfl)
  rw [lg_entry_eq]
  generalize (lg_sl ([.ref q]) ++ List.replicate (1 - (lg_sl ([.ref q])).length) Slot.unset).toArray = ls at hl0 ⊢
  have hl0 : lv_has ls 1 [(0, .ref q)] := hl0
  refine va_gets hx hb hY.2.2.2.2.1 hw.2.2.1 hown (hts (.fieldLink RJ0 38 "java/lang/String" "COMPACT_STRINGS" "Z") (by decide +kernel)) (fun _ h => h) dJ0_coder_7d493_0 ?_
  refine lv_if_eq (tgt := 13) hx hb dJ0_coder_7d493_3 (by decide) (fun c1 => absurd c1 (by decide)) (fun _ => ?_)
  refine lv_aload_n hx hb dJ0_coder_7d493_6 rfl (lv_at hl0 0 rfl) ?_
  refine vk_getf hx hb hY.2.1 hw.2.2.1 hown (hts (.fieldLink RJ0 15 "java/lang/String" "coder" "B") (by decide +kernel)) (fun _ h => h) dJ0_coder_7d493_7 ?_
  refine lv_goto (tgt := 14) hx hb dJ0_coder_7d493_10 (by decide) ?_
  exact pw_zret hx hb hr rfl hlocks hw ⟨rfl, rfl⟩ dJ0_coder_7d493_14
-- String.isLatin1()
set_option maxHeartbeats 4000000 in
set_option maxRecDepth 100000 in
theorem c_J0_isLatin1_aae02 (l : Launch) (D : va_G) (cy : Nat → ClassId) (q v n : Nat) (b : Nat → Int32) (sz : Nat) (L : List Nat) (f : Nat → va_E) : Met l yJ0_isLatin1_aae02 wsJ0_isLatin1_aae02 ({ frames := 0, cells := 0, slots := 0, locals := 0 }) (py_Pc D cy q v n b [.ref q] sz L f) (va_Qi (fun (r : Int32) (u : List Nat × (Nat → va_E)) => r = 1 ∧ u = (L, f)) (pw_B D (pw_A L f sz)) (pw_A L f sz)) 0 0 (pw_A L f sz) := by
  refine Met.ofW (cc := cJ0_isLatin1_aae02) (maxL := 1) (ret := some .boolean) (by decide) rfl ?_
  intro p e s m args below meth c s₁ B hml hv
  obtain ⟨rfl, hsz, hG, hY, hP, hD0⟩ := hv
  have hx := B.exec
  have hb := B.bytes
  have hr := B.returns
  have hts := atoms_spec (ws := wsJ0_isLatin1_aae02) B.pre
  have hown : s.vm.findClass RJ0 = some m.cls := findClass_of_methodNamed B.named
  have hlocks := B.notSynchronized
  have hw := pw_start (cy := cy) hsz hP hD0
  have hl0 := lv_entry ([.ref q]) (n := 1) (Nat.le_of_ble_eq_true rfl)
  rw [lg_entry_eq]
  generalize (lg_sl ([.ref q]) ++ List.replicate (1 - (lg_sl ([.ref q])).length) Slot.unset).toArray = ls at hl0 ⊢
  have hl0 : lv_has ls 1 [(0, .ref q)] := hl0
  refine va_gets hx hb hY.2.2.2.2.1 hw.2.2.1 hown (hts (.fieldLink RJ0 38 "java/lang/String" "COMPACT_STRINGS" "Z") (by decide +kernel)) (fun _ h => h) dJ0_isLatin1_aae02_0 ?_
  refine lv_if_eq (tgt := 17) hx hb dJ0_isLatin1_aae02_3 (by decide) (fun c1 => absurd c1 (by decide)) (fun _ => ?_)
  refine lv_aload_n hx hb dJ0_isLatin1_aae02_6 rfl (lv_at hl0 0 rfl) ?_
  refine vk_getf hx hb hY.2.1 hw.2.2.1 hown (hts (.fieldLink RJ0 15 "java/lang/String" "coder" "B") (by decide +kernel)) (fun _ h => h) dJ0_isLatin1_aae02_7 ?_
  refine lv_if_ne (tgt := 17) hx hb dJ0_isLatin1_aae02_10 (by decide) (fun c1 => absurd rfl c1) (fun _ => ?_)
  refine lv_iconst (v := 1) hx hb dJ0_isLatin1_aae02_13 (by decide) ?_
  refine lv_goto (tgt := 18) hx hb dJ0_isLatin1_aae02_14 (by decide) ?_
  exact pw_zret hx hb hr rfl hlocks hw ⟨rfl, rfl⟩ dJ0_isLatin1_aae02_18
-- String.length()
set_option maxHeartbeats 4000000 in
set_option maxRecDepth 100000 in
theorem c_J0_length_8abf5 (l : Launch) (D : va_G) (cy : Nat → ClassId) (q v n : Nat) (b : Nat → Int32) (sz : Nat) (L : List Nat) (f : Nat → va_E) (hn : n < 2 ^ 31) : Met l yJ0_length_8abf5 wsJ0_length_8abf5 ({ frames := 1, cells := 0, slots := 0, locals := 20 }) (py_Pc D cy q v n b [.ref q] sz L f) (va_Qi (fun (r : Int32) (u : List Nat × (Nat → va_E)) => r = nI n ∧ u = (L, f)) (pw_B D (pw_A L f sz)) (pw_A L f sz)) 0 0 (pw_A L f sz) := by
  refine Met.ofW (cc := cJ0_length_8abf5) (maxL := 1) (ret := some .int) (by decide) rfl ?_
  intro p e s m args below meth c s₁ B hml hv
  obtain ⟨rfl, hsz, hG, hY, hP, hD0⟩ := hv
  have hx := B.exec
  have hb := B.bytes
  have hr := B.returns
  have hts := atoms_spec (ws := wsJ0_length_8abf5) B.pre
  have hown : s.vm.findClass RJ0 = some m.cls := findClass_of_methodNamed B.named
  have hlocks := B.notSynchronized
  have hw := pw_start (cy := cy) hsz hP hD0
  have hl0 := lv_entry ([.ref q]) (n := 1) (Nat.le_of_ble_eq_true rfl)
  rw [lg_entry_eq]
  generalize (lg_sl ([.ref q]) ++ List.replicate (1 - (lg_sl ([.ref q])).length) Slot.unset).toArray = ls at hl0 ⊢
  have hl0 : lv_has ls 1 [(0, .ref q)] := hl0
  refine lv_aload_n hx hb dJ0_length_8abf5_0 rfl (lv_at hl0 0 rfl) ?_
  refine vk_getf hx hb hY.2.2.1 hw.2.2.1 hown (hts (.fieldLink RJ0 9 "java/lang/String" "value" "[B") (by decide +kernel)) (fun _ h => h) dJ0_length_8abf5_1 ?_
  refine va_tlen (v := nI n) hx hb hY.2.2.2.1 hw.2.2.1 rfl dJ0_length_8abf5_4 ?_
  refine lv_aload_n hx hb dJ0_length_8abf5_5 rfl (lv_at hl0 0 rfl) ?_
  refine pw_calli hw (va_runV (As := []) (rest := [.int (nI n)]) ⟨hx, hb, hml, hown, hts⟩ (c_J0_coder_7d493 l D cy q v n b s.heap.size L f) (cwV 0 hts gJ0_length_8abf5_J0_coder_7d493 rfl rfl rfl (by decide +kernel) ⟨(Nat.le_of_ble_eq_true rfl), (Nat.le_of_ble_eq_true rfl)⟩) (py_preV hG hY hw) rfl rfl hl0.1 rfl (lv_room (Nat.le_of_ble_eq_true rfl)) dJ0_length_8abf5_6 ⟨Nat.zero_le _, Nat.zero_le _⟩) (fun r L1 f1 H locs hw hp => ?_)
  obtain ⟨rfl, hu⟩ := hp
  cases hu
  refine lv_ishr hx hb dJ0_length_8abf5_9 ?_
  exact pw_zret hx hb hr rfl hlocks hw ⟨sc_shr0 hn, rfl⟩ dJ0_length_8abf5_10
