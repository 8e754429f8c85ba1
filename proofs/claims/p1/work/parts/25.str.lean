/-! A STRING CONSTANT, and the JDK's own methods over it. -/
def py_S (q v n : Nat) (b : Nat → Int32) (A : Nat → Prop) (U : State) (H : Heap) : Prop :=
  va_O "java/lang/String" q A U H ∧ va_OF "java/lang/String" "coder" "B" (.int 0) q A U H ∧ va_OF "java/lang/String" "value" "[B" (.ref v) q A U H ∧ va_T .byte v n (fun j => .int (b j)) A U H ∧
  va_Z "java/lang/String" "COMPACT_STRINGS" "Z" (.int 1) A U H ∧ va_Zq "jdk/internal/util/Preconditions" "SIOOBE_FORMATTER" "Ljava/util/function/BiFunction;" A U H
theorem py_S.to {q v n : Nat} {b : Nat → Int32} {A A' : Nat → Prop} {s U : State} {H H1 : Heap} (hv : s.vm.Alike U.vm) (hk : ∀ a : Nat, a < H.size → ¬ A a → H1[a]? = H[a]?) (hA : ∀ a, A' a → A a) (h : py_S q v n b A s H) : py_S q v n b A' U H1 :=
  ⟨((h.1.moved hv).kept hk).narrow hA, ((h.2.1.moved hv).kept hk).narrow hA, ((h.2.2.1.moved hv).kept hk).narrow hA, ((h.2.2.2.1.moved hv).kept hk).narrow hA, ((h.2.2.2.2.1.moved hv).kept hk).narrow hA, ((h.2.2.2.2.2.moved hv).kept hk).narrow hA⟩
def py_Pc (D : va_G) (cy : Nat → ClassId) (q v n : Nat) (b : Nat → Int32) (av : List Value) (sz : Nat) (L : List Nat) (f : Nat → va_E) : Array Value → State → Prop :=
  va_Pc av (fun U => U.heap.size = sz ∧ pw_G D cy U ∧ py_S q v n b (pw_A L f sz) U U.heap ∧ va_P D vwCl (va_pl L f) U.heap ∧ va_D (fun _ => True) (va_pl L f))
theorem py_blind {D : va_G} {cy : Nat → ClassId} {q v n : Nat} {b : Nat → Int32} {av : List Value} {sz : Nat} {L : List Nat} {f : Nat → va_E} : FrameBlind (py_Pc D cy q v n b av sz L f) := by
  intro a U g mk h
  obtain ⟨q0, q1, qG, qX, qP, qD⟩ := h
  exact ⟨q0, q1, pw_G.same (s := U) (U := U.calling g mk a) rfl qG, qX.to (s := U) (U := U.calling g mk a) (Vm.Alike.refl U.vm) (fun _ _ _ => rfl) (fun _ h => h), qP, qD⟩
theorem pq_C.nil {L : List Nat} {f : Nat → va_E} : pq_C L f [] := ⟨List.nodup_nil, fun _ h => absurd h List.not_mem_nil⟩
section PY
variable {p : Program} {l : Launch} {e : Env} {R : Room} {s : State} {m : MethodId} {args : Array Value} {below : List Frame} {meth : Method} {c : Code} {H : Heap} {locs : List Loc} {cells slots : Nat} {Q : State → Prop}
variable {D : va_G} {cy : Nat → ClassId} {sz : Nat} {L as : List Nat} {f f0 : Nat → va_E} {ls : Array Slot} {rest : List Value} {q v n : Nat} {b : Nat → Int32} {cs : List (Nat × va_E)} {cc : ByteArray} {pc : Nat}
theorem py_pre {av : List Value} {A : Nat → Prop} (hG : pw_G D cy s) (hY : py_S q v n b A s s.heap) (hw : pw_W D A s.heap L f H locs) : PreS s H (py_Pc D cy q v n b av H.size L f) av :=
  ⟨py_blind, fun U hU hW => ⟨rfl, by rw [hU], hG.warm hW, hY.to hW.alike (fun a h1 h2 => by rw [hU]; exact hw.2.2.1.2.1 a h1 h2) (pq_sub hw), by rw [hU]; exact hw.1, hw.2.1.weaken (fun _ _ _ _ => trivial)⟩⟩
theorem py_preV {As : List Value} {A : Nat → Prop} (hG : pw_G D cy s) (hY : py_S q v n b A s s.heap) (hw : pw_W D A s.heap L f H locs) : PreV s H RJ0 q (py_Pc D cy q v n b (.ref q :: As) H.size L f) As := by
  obtain ⟨cell, h1, h2, h3, -⟩ := hY.1.kept hw.2.2.1.2.1
  exact ⟨py_blind, ⟨cell, h1, h2, h3⟩, (py_pre hG hY hw).2⟩
theorem pq_W.S {A : Nat → Prop} {H0 : Heap} (h : pq_W D A H0 L f0 as cs H locs) : va_S A H0 H locs := by
  obtain ⟨f, hw, -⟩ := h
  exact hw.2.2.1
theorem py_ldcSW (hexec : p.tables.exec = Jvm.exec) (hb : c.code = cc) {own tx : String} {index q : Nat} (hown : s.vm.findClass own = some m.cls) (hZ : vk_R own index tx q s) (hdg : decode cc pc = .ok (.ldc_w index, 3))
    (k : W p l e R s m args below meth c H locs cells slots Q (F0 m (pc + 3) ls (.ref q :: rest))) : W p l e R s m args below meth c H locs cells slots Q (F0 m pc ls rest) := by
  intro T hT X
  obtain ⟨t, a1, b1⟩ := k T hT X
  exact ⟨t, X.ldcStringW hexec hown (text := tx) (a := q) hZ.1 hZ.2 (g := F0 m pc ls rest) rfl (by rw [hb]; exact hdg) t a1, b1⟩
end PY
set_option maxHeartbeats 4000000 in
set_option maxRecDepth 100000 in
theorem c_J0_coder_7d493 (l : Launch) (D : va_G) (cy : Nat → ClassId) (q v n : Nat) (b : Nat → Int32) (sz : Nat) (L : List Nat) (f : Nat → va_E) : Met l yJ0_coder_7d493 (Cond.code yJ0_coder_7d493 cJ0_coder_7d493 1 (some .byte) :: pp_ws) ({ frames := 0, cells := 0, slots := 0, locals := 0 }) (py_Pc D cy q v n b [.ref q] sz L f) (pq_Qi D sz L f [] (fun r cs1 => r = 0 ∧ cs1 = [])) 0 0 (pw_A L f sz) := by
  refine Met.ofW (cc := cJ0_coder_7d493) (maxL := 1) (ret := (some .byte)) (by decide) rfl ?_
  intro p e s m args below meth c s₁ B hml hv
  obtain ⟨rfl, hsz, hG, hY, hP, hD0⟩ := hv
  have hx := B.exec
  have hb := B.bytes
  have hr := B.returns
  have hts := atoms_spec (ws := Cond.code yJ0_coder_7d493 cJ0_coder_7d493 1 (some .byte) :: pp_ws) B.pre
  have hpp := fun (w : Cond) (h : w ∈ pp_ws) => hts w (List.mem_cons_of_mem _ h)
  have hown : s.vm.findClass RJ0 = some m.cls := findClass_of_methodNamed B.named
  have hlocks := B.notSynchronized
  have hw := pw_start (cy := cy) hsz hP hD0
  have hW := pq_start (as := []) hw pq_C.nil rfl
  have hl := lv_entry ([.ref q]) (n := 1) (Nat.le_of_ble_eq_true rfl)
  rw [lg_entry_eq]
  generalize (lg_sl ([.ref q]) ++ List.replicate (1 - (lg_sl ([.ref q])).length) Slot.unset).toArray = ls at hl ⊢
  have hl : lv_has ls 1 [(0, .ref q)] := hl
  refine va_gets hx hb hY.2.2.2.2.1 hW.S hown (hpp _ pp310) (fun _ h => h) dJ0_coder_7d493_0 ?_
  refine lv_if_eq (tgt := 13) hx hb dJ0_coder_7d493_3 (by decide) (fun c1 => absurd c1 (by decide)) (fun _ => ?_)
  refine lv_aload_n hx hb dJ0_coder_7d493_6 rfl (lv_at hl 0 rfl) ?_
  refine vk_getf hx hb hY.2.1 hW.S hown (hpp _ pp311) (fun _ h => h) dJ0_coder_7d493_7 ?_
  refine lv_goto (tgt := 14) hx hb dJ0_coder_7d493_10 (by decide) ?_
  exact pq_iret hx hb hr hlocks rfl hW ⟨rfl, rfl⟩ dJ0_coder_7d493_14
set_option maxHeartbeats 4000000 in
set_option maxRecDepth 100000 in
theorem c_J0_isLatin1_aae02 (l : Launch) (D : va_G) (cy : Nat → ClassId) (q v n : Nat) (b : Nat → Int32) (sz : Nat) (L : List Nat) (f : Nat → va_E) : Met l yJ0_isLatin1_aae02 (Cond.code yJ0_isLatin1_aae02 cJ0_isLatin1_aae02 1 (some .boolean) :: pp_ws) ({ frames := 0, cells := 0, slots := 0, locals := 0 }) (py_Pc D cy q v n b [.ref q] sz L f) (pq_Qi D sz L f [] (fun r cs1 => r = 1 ∧ cs1 = [])) 0 0 (pw_A L f sz) := by
  refine Met.ofW (cc := cJ0_isLatin1_aae02) (maxL := 1) (ret := (some .boolean)) (by decide) rfl ?_
  intro p e s m args below meth c s₁ B hml hv
  obtain ⟨rfl, hsz, hG, hY, hP, hD0⟩ := hv
  have hx := B.exec
  have hb := B.bytes
  have hr := B.returns
  have hts := atoms_spec (ws := Cond.code yJ0_isLatin1_aae02 cJ0_isLatin1_aae02 1 (some .boolean) :: pp_ws) B.pre
  have hpp := fun (w : Cond) (h : w ∈ pp_ws) => hts w (List.mem_cons_of_mem _ h)
  have hown : s.vm.findClass RJ0 = some m.cls := findClass_of_methodNamed B.named
  have hlocks := B.notSynchronized
  have hw := pw_start (cy := cy) hsz hP hD0
  have hW := pq_start (as := []) hw pq_C.nil rfl
  have hl := lv_entry ([.ref q]) (n := 1) (Nat.le_of_ble_eq_true rfl)
  rw [lg_entry_eq]
  generalize (lg_sl ([.ref q]) ++ List.replicate (1 - (lg_sl ([.ref q])).length) Slot.unset).toArray = ls at hl ⊢
  have hl : lv_has ls 1 [(0, .ref q)] := hl
  refine va_gets hx hb hY.2.2.2.2.1 hW.S hown (hpp _ pp310) (fun _ h => h) dJ0_isLatin1_aae02_0 ?_
  refine lv_if_eq (tgt := 17) hx hb dJ0_isLatin1_aae02_3 (by decide) (fun c1 => absurd c1 (by decide)) (fun _ => ?_)
  refine lv_aload_n hx hb dJ0_isLatin1_aae02_6 rfl (lv_at hl 0 rfl) ?_
  refine vk_getf hx hb hY.2.1 hW.S hown (hpp _ pp311) (fun _ h => h) dJ0_isLatin1_aae02_7 ?_
  refine lv_if_ne (tgt := 17) hx hb dJ0_isLatin1_aae02_10 (by decide) (fun c1 => absurd rfl c1) (fun _ => ?_)
  refine lv_iconst (v := 1) hx hb dJ0_isLatin1_aae02_13 (by decide) ?_
  refine lv_goto (tgt := 18) hx hb dJ0_isLatin1_aae02_14 (by decide) ?_
  exact pq_iret hx hb hr hlocks rfl hW ⟨rfl, rfl⟩ dJ0_isLatin1_aae02_18
set_option maxHeartbeats 4000000 in
set_option maxRecDepth 100000 in
theorem c_J0_length_8abf5 (l : Launch) (D : va_G) (cy : Nat → ClassId) (q v n : Nat) (b : Nat → Int32) (hn : n < 2 ^ 31) (sz : Nat) (L : List Nat) (f : Nat → va_E) : Met l yJ0_length_8abf5 (Cond.code yJ0_length_8abf5 cJ0_length_8abf5 1 (some .int) :: pp_ws) ({ frames := 1, cells := 0, slots := 0, locals := 20 }) (py_Pc D cy q v n b [.ref q] sz L f) (pq_Qi D sz L f [] (fun r cs1 => r = nI n ∧ cs1 = [])) 0 0 (pw_A L f sz) := by
  refine Met.ofW (cc := cJ0_length_8abf5) (maxL := 1) (ret := (some .int)) (by decide) rfl ?_
  intro p e s m args below meth c s₁ B hml hv
  obtain ⟨rfl, hsz, hG, hY, hP, hD0⟩ := hv
  have hx := B.exec
  have hb := B.bytes
  have hr := B.returns
  have hts := atoms_spec (ws := Cond.code yJ0_length_8abf5 cJ0_length_8abf5 1 (some .int) :: pp_ws) B.pre
  have hpp := fun (w : Cond) (h : w ∈ pp_ws) => hts w (List.mem_cons_of_mem _ h)
  have hown : s.vm.findClass RJ0 = some m.cls := findClass_of_methodNamed B.named
  have hlocks := B.notSynchronized
  have hw := pw_start (cy := cy) hsz hP hD0
  have hW := pq_start (as := []) hw pq_C.nil rfl
  have hl := lv_entry ([.ref q]) (n := 1) (Nat.le_of_ble_eq_true rfl)
  rw [lg_entry_eq]
  generalize (lg_sl ([.ref q]) ++ List.replicate (1 - (lg_sl ([.ref q])).length) Slot.unset).toArray = ls at hl ⊢
  have hl : lv_has ls 1 [(0, .ref q)] := hl
  refine lv_aload_n hx hb dJ0_length_8abf5_0 rfl (lv_at hl 0 rfl) ?_
  refine vk_getf hx hb hY.2.2.1 hW.S hown (hpp _ pp312) (fun _ h => h) dJ0_length_8abf5_1 ?_
  refine va_tlen (v := nI n) hx hb hY.2.2.2.1 hW.S rfl dJ0_length_8abf5_4 ?_
  refine lv_aload_n hx hb dJ0_length_8abf5_5 rfl (lv_at hl 0 rfl) ?_
  refine pq_calli hW [] [] (by decide) rfl rfl (fun f9 hw9 hC9 => va_runV (C := RJ0) (As := []) (rest := [.int (nI n)]) ⟨hx, hb, hml, hown, hts⟩ (c_J0_coder_7d493 l D cy q v n b _ L f9) (cwV 0 hts (pp_gV pp313 pp314 pp315 pp316 pp317) rfl rfl rfl pd_J0_coder_7d493 ⟨Nat.le_of_ble_eq_true rfl, Nat.le_of_ble_eq_true rfl⟩) (py_preV hG hY hw9) rfl rfl hl.1 rfl (lv_room (Nat.le_of_ble_eq_true rfl)) dJ0_length_8abf5_6 ⟨Nat.le_of_ble_eq_true rfl, Nat.le_of_ble_eq_true rfl⟩) (fun r cs1 H locs hP hW => ?_)
  obtain ⟨rfl, rfl⟩ := hP
  refine lv_ishr hx hb dJ0_length_8abf5_9 ?_
  exact pq_iret hx hb hr hlocks rfl hW ⟨sc_shr0 hn, rfl⟩ dJ0_length_8abf5_10
set_option maxHeartbeats 4000000 in
set_option maxRecDepth 100000 in
theorem c_J3_checkIndex_8e157_n (l : Launch) (D : va_G) (cy : Nat → ClassId) (q v n : Nat) (b : Nat → Int32) (k : Nat) (hk : k < n) (hn : n < 2 ^ 31) (sz : Nat) (L : List Nat) (f : Nat → va_E) : Met l yJ3_checkIndex_8e157 (Cond.code yJ3_checkIndex_8e157 cJ3_checkIndex_8e157 3 (some .int) :: pp_ws) ({ frames := 0, cells := 0, slots := 0, locals := 0 }) (py_Pc D cy q v n b [.int (nI k), .int (nI n), .null] sz L f) (pq_Qi D sz L f [] (fun r cs1 => cs1 = [])) 0 0 (pw_A L f sz) := by
  refine Met.ofW (cc := cJ3_checkIndex_8e157) (maxL := 3) (ret := (some .int)) (by decide) rfl ?_
  intro p e s m args below meth c s₁ B hml hv
  obtain ⟨rfl, hsz, hG, hY, hP, hD0⟩ := hv
  have hx := B.exec
  have hb := B.bytes
  have hr := B.returns
  have hts := atoms_spec (ws := Cond.code yJ3_checkIndex_8e157 cJ3_checkIndex_8e157 3 (some .int) :: pp_ws) B.pre
  have hpp := fun (w : Cond) (h : w ∈ pp_ws) => hts w (List.mem_cons_of_mem _ h)
  have hown : s.vm.findClass RJ3 = some m.cls := findClass_of_methodNamed B.named
  have hlocks := B.notSynchronized
  have hw := pw_start (cy := cy) hsz hP hD0
  have hW := pq_start (as := []) hw pq_C.nil rfl
  have hl := lv_entry ([.int (nI k), .int (nI n), .null]) (n := 3) (Nat.le_of_ble_eq_true rfl)
  rw [lg_entry_eq]
  generalize (lg_sl ([.int (nI k), .int (nI n), .null]) ++ List.replicate (3 - (lg_sl ([.int (nI k), .int (nI n), .null])).length) Slot.unset).toArray = ls at hl ⊢
  have hl : lv_has ls 3 [(0, .int (nI k)), (1, .int (nI n)), (2, .null)] := hl
  refine lv_iload_n hx hb dJ3_checkIndex_8e157_0 rfl (lv_at hl 0 rfl) ?_
  refine lv_if_lt (tgt := 9) hx hb dJ3_checkIndex_8e157_1 (by decide) (fun c1 => absurd c1 (nI_pos (by omega))) (fun _ => ?_)
  refine lv_iload_n hx hb dJ3_checkIndex_8e157_4 rfl (lv_at hl 0 rfl) ?_
  refine lv_iload_n hx hb dJ3_checkIndex_8e157_5 rfl (lv_at hl 1 rfl) ?_
  refine lv_icmp_lt (tgt := 16) hx hb dJ3_checkIndex_8e157_6 (by decide) (fun _ => ?_) (fun c1 => absurd (nI_lt hk hn) c1)
  refine lv_iload_n hx hb dJ3_checkIndex_8e157_16 rfl (lv_at hl 0 rfl) ?_
  exact pq_iret hx hb hr hlocks rfl hW rfl dJ3_checkIndex_8e157_17
set_option maxHeartbeats 4000000 in
set_option maxRecDepth 100000 in
theorem c_J3_checkIndex_8e157_r (l : Launch) (D : va_G) (cy : Nat → ClassId) (q v n : Nat) (b : Nat → Int32) (k : Nat) (hk : k < n) (hn : n < 2 ^ 31) (t : Nat) (sz : Nat) (L : List Nat) (f : Nat → va_E) : Met l yJ3_checkIndex_8e157 (Cond.code yJ3_checkIndex_8e157 cJ3_checkIndex_8e157 3 (some .int) :: pp_ws) ({ frames := 0, cells := 0, slots := 0, locals := 0 }) (py_Pc D cy q v n b [.int (nI k), .int (nI n), .ref t] sz L f) (pq_Qi D sz L f [] (fun r cs1 => cs1 = [])) 0 0 (pw_A L f sz) := by
  refine Met.ofW (cc := cJ3_checkIndex_8e157) (maxL := 3) (ret := (some .int)) (by decide) rfl ?_
  intro p e s m args below meth c s₁ B hml hv
  obtain ⟨rfl, hsz, hG, hY, hP, hD0⟩ := hv
  have hx := B.exec
  have hb := B.bytes
  have hr := B.returns
  have hts := atoms_spec (ws := Cond.code yJ3_checkIndex_8e157 cJ3_checkIndex_8e157 3 (some .int) :: pp_ws) B.pre
  have hpp := fun (w : Cond) (h : w ∈ pp_ws) => hts w (List.mem_cons_of_mem _ h)
  have hown : s.vm.findClass RJ3 = some m.cls := findClass_of_methodNamed B.named
  have hlocks := B.notSynchronized
  have hw := pw_start (cy := cy) hsz hP hD0
  have hW := pq_start (as := []) hw pq_C.nil rfl
  have hl := lv_entry ([.int (nI k), .int (nI n), .ref t]) (n := 3) (Nat.le_of_ble_eq_true rfl)
  rw [lg_entry_eq]
  generalize (lg_sl ([.int (nI k), .int (nI n), .ref t]) ++ List.replicate (3 - (lg_sl ([.int (nI k), .int (nI n), .ref t])).length) Slot.unset).toArray = ls at hl ⊢
  have hl : lv_has ls 3 [(0, .int (nI k)), (1, .int (nI n)), (2, .ref t)] := hl
  refine lv_iload_n hx hb dJ3_checkIndex_8e157_0 rfl (lv_at hl 0 rfl) ?_
  refine lv_if_lt (tgt := 9) hx hb dJ3_checkIndex_8e157_1 (by decide) (fun c1 => absurd c1 (nI_pos (by omega))) (fun _ => ?_)
  refine lv_iload_n hx hb dJ3_checkIndex_8e157_4 rfl (lv_at hl 0 rfl) ?_
  refine lv_iload_n hx hb dJ3_checkIndex_8e157_5 rfl (lv_at hl 1 rfl) ?_
  refine lv_icmp_lt (tgt := 16) hx hb dJ3_checkIndex_8e157_6 (by decide) (fun _ => ?_) (fun c1 => absurd (nI_lt hk hn) c1)
  refine lv_iload_n hx hb dJ3_checkIndex_8e157_16 rfl (lv_at hl 0 rfl) ?_
  exact pq_iret hx hb hr hlocks rfl hW rfl dJ3_checkIndex_8e157_17
set_option maxHeartbeats 4000000 in
set_option maxRecDepth 100000 in
theorem c_J0_checkIndex_df160 (l : Launch) (D : va_G) (cy : Nat → ClassId) (q v n : Nat) (b : Nat → Int32) (k : Nat) (hk : k < n) (hn : n < 2 ^ 31) (sz : Nat) (L : List Nat) (f : Nat → va_E) : Met l yJ0_checkIndex_df160 (Cond.code yJ0_checkIndex_df160 cJ0_checkIndex_df160 2 none :: pp_ws) ({ frames := 1, cells := 0, slots := 0, locals := 22 }) (py_Pc D cy q v n b [.int (nI k), .int (nI n)] sz L f) (pq_Qv D sz L f [] (fun cs1 => cs1 = [])) 0 0 (pw_A L f sz) := by
  refine Met.ofW (cc := cJ0_checkIndex_df160) (maxL := 2) (ret := none) (by decide) rfl ?_
  intro p e s m args below meth c s₁ B hml hv
  obtain ⟨rfl, hsz, hG, hY, hP, hD0⟩ := hv
  have hx := B.exec
  have hb := B.bytes
  have hr := B.returns
  have hts := atoms_spec (ws := Cond.code yJ0_checkIndex_df160 cJ0_checkIndex_df160 2 none :: pp_ws) B.pre
  have hpp := fun (w : Cond) (h : w ∈ pp_ws) => hts w (List.mem_cons_of_mem _ h)
  have hown : s.vm.findClass RJ0 = some m.cls := findClass_of_methodNamed B.named
  have hlocks := B.notSynchronized
  have hw := pw_start (cy := cy) hsz hP hD0
  have hW := pq_start (as := []) hw pq_C.nil rfl
  have hl := lv_entry ([.int (nI k), .int (nI n)]) (n := 2) (Nat.le_of_ble_eq_true rfl)
  rw [lg_entry_eq]
  generalize (lg_sl ([.int (nI k), .int (nI n)]) ++ List.replicate (2 - (lg_sl ([.int (nI k), .int (nI n)])).length) Slot.unset).toArray = ls at hl ⊢
  have hl : lv_has ls 2 [(0, .int (nI k)), (1, .int (nI n))] := hl
  refine lv_iload_n hx hb dJ0_checkIndex_df160_0 rfl (lv_at hl 0 rfl) ?_
  refine lv_iload_n hx hb dJ0_checkIndex_df160_1 rfl (lv_at hl 1 rfl) ?_
  rcases hY.2.2.2.2.2 with hZ | ⟨t, hZ⟩
  · refine va_gets hx hb hZ hW.S hown (hpp _ pp318) (fun _ h => h) dJ0_checkIndex_df160_2 ?_
    refine pq_calli hW [] [] (by decide) rfl rfl (fun f9 hw9 hC9 => va_runS (As := [.int (nI k), .int (nI n), .null]) (rest := []) ⟨hx, hb, hml, hown, hts⟩ (c_J3_checkIndex_8e157_n l D cy q v n b k hk hn _ L f9) (va_cwS 3 hts (pp_gS pp319 pp320 pp321 pp322) rfl rfl rfl pd_J3_checkIndex_8e157 ⟨Nat.le_of_ble_eq_true rfl, Nat.le_of_ble_eq_true rfl⟩) (py_pre hG hY hw9) rfl rfl hl.1 rfl (lv_room (Nat.le_of_ble_eq_true rfl)) dJ0_checkIndex_df160_5 ⟨Nat.le_of_ble_eq_true rfl, Nat.le_of_ble_eq_true rfl⟩) (fun r cs1 H locs hP hW => ?_)
    subst hP
    refine lv_pop hx hb dJ0_checkIndex_df160_8 rfl ?_
    exact pq_vret hx hb hr hlocks hW rfl dJ0_checkIndex_df160_9
  · refine va_gets hx hb hZ hW.S hown (hpp _ pp318) (fun _ h => h) dJ0_checkIndex_df160_2 ?_
    refine pq_calli hW [] [] (by decide) rfl rfl (fun f9 hw9 hC9 => va_runS (As := [.int (nI k), .int (nI n), .ref t]) (rest := []) ⟨hx, hb, hml, hown, hts⟩ (c_J3_checkIndex_8e157_r l D cy q v n b k hk hn t _ L f9) (va_cwS 3 hts (pp_gS pp319 pp320 pp321 pp322) rfl rfl rfl pd_J3_checkIndex_8e157 ⟨Nat.le_of_ble_eq_true rfl, Nat.le_of_ble_eq_true rfl⟩) (py_pre hG hY hw9) rfl rfl hl.1 rfl (lv_room (Nat.le_of_ble_eq_true rfl)) dJ0_checkIndex_df160_5 ⟨Nat.le_of_ble_eq_true rfl, Nat.le_of_ble_eq_true rfl⟩) (fun r cs1 H locs hP hW => ?_)
    subst hP
    refine lv_pop hx hb dJ0_checkIndex_df160_8 rfl ?_
    exact pq_vret hx hb hr hlocks hW rfl dJ0_checkIndex_df160_9
set_option maxHeartbeats 4000000 in
set_option maxRecDepth 100000 in
theorem c_J1_charAt_3b067 (l : Launch) (D : va_G) (cy : Nat → ClassId) (q v n : Nat) (b : Nat → Int32) (k : Nat) (hk : k < n) (hn : n < 2 ^ 31) (sz : Nat) (L : List Nat) (f : Nat → va_E) : Met l yJ1_charAt_3b067 (Cond.code yJ1_charAt_3b067 cJ1_charAt_3b067 2 (some .char) :: pp_ws) ({ frames := 2, cells := 0, slots := 0, locals := 43 }) (py_Pc D cy q v n b [.ref v, .int (nI k)] sz L f) (pq_Qi D sz L f [] (fun r cs1 => narrow .char (.int r) = .int r ∧ cs1 = [])) 0 0 (pw_A L f sz) := by
  refine Met.ofW (cc := cJ1_charAt_3b067) (maxL := 2) (ret := (some .char)) (by decide) rfl ?_
  intro p e s m args below meth c s₁ B hml hv
  obtain ⟨rfl, hsz, hG, hY, hP, hD0⟩ := hv
  have hx := B.exec
  have hb := B.bytes
  have hr := B.returns
  have hts := atoms_spec (ws := Cond.code yJ1_charAt_3b067 cJ1_charAt_3b067 2 (some .char) :: pp_ws) B.pre
  have hpp := fun (w : Cond) (h : w ∈ pp_ws) => hts w (List.mem_cons_of_mem _ h)
  have hown : s.vm.findClass RJ1 = some m.cls := findClass_of_methodNamed B.named
  have hlocks := B.notSynchronized
  have hw := pw_start (cy := cy) hsz hP hD0
  have hW := pq_start (as := []) hw pq_C.nil rfl
  have hl := lv_entry ([.ref v, .int (nI k)]) (n := 2) (Nat.le_of_ble_eq_true rfl)
  rw [lg_entry_eq]
  generalize (lg_sl ([.ref v, .int (nI k)]) ++ List.replicate (2 - (lg_sl ([.ref v, .int (nI k)])).length) Slot.unset).toArray = ls at hl ⊢
  have hl : lv_has ls 2 [(0, .ref v), (1, .int (nI k))] := hl
  refine lv_iload_n hx hb dJ1_charAt_3b067_0 rfl (lv_at hl 1 rfl) ?_
  refine lv_aload_n hx hb dJ1_charAt_3b067_1 rfl (lv_at hl 0 rfl) ?_
  refine va_tlen (v := nI n) hx hb hY.2.2.2.1 hW.S rfl dJ1_charAt_3b067_2 ?_
  refine pq_callv hW [] [] (by decide) rfl rfl (fun f9 hw9 hC9 => va_runS (As := [.int (nI k), .int (nI n)]) (rest := []) ⟨hx, hb, hml, hown, hts⟩ (c_J0_checkIndex_df160 l D cy q v n b k hk hn _ L f9) (va_cwS 2 hts (pp_gS pp323 pp324 pp325 pp317) rfl rfl rfl pd_J0_checkIndex_df160 ⟨Nat.le_of_ble_eq_true rfl, Nat.le_of_ble_eq_true rfl⟩) (py_pre hG hY hw9) rfl rfl hl.1 rfl (lv_room (Nat.le_of_ble_eq_true rfl)) dJ1_charAt_3b067_3 ⟨Nat.le_of_ble_eq_true rfl, Nat.le_of_ble_eq_true rfl⟩) (fun cs1 H locs hP hW => ?_)
  subst hP
  refine lv_aload_n hx hb dJ1_charAt_3b067_6 rfl (lv_at hl 0 rfl) ?_
  refine lv_iload_n hx hb dJ1_charAt_3b067_7 rfl (lv_at hl 1 rfl) ?_
  refine va_tb hx hb hY.2.2.2.1 hW.S (vp_in_nI hk hn) rfl dJ1_charAt_3b067_8 ?_
  refine lv_sipush (v := 255) hx hb dJ1_charAt_3b067_9 (by decide) ?_
  refine lv_iand hx hb dJ1_charAt_3b067_12 ?_
  refine lv_i2c hx hb dJ1_charAt_3b067_13 rfl ?_
  exact pq_iret hx hb hr hlocks (pk_nc _) hW ⟨pk_nc _, rfl⟩ dJ1_charAt_3b067_14
set_option maxHeartbeats 4000000 in
set_option maxRecDepth 100000 in
theorem c_J0_charAt_5068e (l : Launch) (D : va_G) (cy : Nat → ClassId) (q v n : Nat) (b : Nat → Int32) (k : Nat) (hk : k < n) (hn : n < 2 ^ 31) (sz : Nat) (L : List Nat) (f : Nat → va_E) : Met l yJ0_charAt_5068e (Cond.code yJ0_charAt_5068e cJ0_charAt_5068e 2 (some .char) :: pp_ws) ({ frames := 3, cells := 0, slots := 0, locals := 64 }) (py_Pc D cy q v n b [.ref q, .int (nI k)] sz L f) (pq_Qi D sz L f [] (fun r cs1 => cs1 = [])) 0 0 (pw_A L f sz) := by
  refine Met.ofW (cc := cJ0_charAt_5068e) (maxL := 2) (ret := (some .char)) (by decide) rfl ?_
  intro p e s m args below meth c s₁ B hml hv
  obtain ⟨rfl, hsz, hG, hY, hP, hD0⟩ := hv
  have hx := B.exec
  have hb := B.bytes
  have hr := B.returns
  have hts := atoms_spec (ws := Cond.code yJ0_charAt_5068e cJ0_charAt_5068e 2 (some .char) :: pp_ws) B.pre
  have hpp := fun (w : Cond) (h : w ∈ pp_ws) => hts w (List.mem_cons_of_mem _ h)
  have hown : s.vm.findClass RJ0 = some m.cls := findClass_of_methodNamed B.named
  have hlocks := B.notSynchronized
  have hw := pw_start (cy := cy) hsz hP hD0
  have hW := pq_start (as := []) hw pq_C.nil rfl
  have hl := lv_entry ([.ref q, .int (nI k)]) (n := 2) (Nat.le_of_ble_eq_true rfl)
  rw [lg_entry_eq]
  generalize (lg_sl ([.ref q, .int (nI k)]) ++ List.replicate (2 - (lg_sl ([.ref q, .int (nI k)])).length) Slot.unset).toArray = ls at hl ⊢
  have hl : lv_has ls 2 [(0, .ref q), (1, .int (nI k))] := hl
  refine lv_aload_n hx hb dJ0_charAt_5068e_0 rfl (lv_at hl 0 rfl) ?_
  refine pq_calli hW [] [] (by decide) rfl rfl (fun f9 hw9 hC9 => va_runV (C := RJ0) (As := []) (rest := []) ⟨hx, hb, hml, hown, hts⟩ (c_J0_isLatin1_aae02 l D cy q v n b _ L f9) (cwV 0 hts (pp_gV pp326 pp327 pp328 pp329 pp317) rfl rfl rfl pd_J0_isLatin1_aae02 ⟨Nat.le_of_ble_eq_true rfl, Nat.le_of_ble_eq_true rfl⟩) (py_preV hG hY hw9) rfl rfl hl.1 rfl (lv_room (Nat.le_of_ble_eq_true rfl)) dJ0_charAt_5068e_1 ⟨Nat.le_of_ble_eq_true rfl, Nat.le_of_ble_eq_true rfl⟩) (fun r cs1 H locs hP hW => ?_)
  obtain ⟨rfl, rfl⟩ := hP
  refine lv_if_eq (tgt := 16) hx hb dJ0_charAt_5068e_4 (by decide) (fun c1 => absurd c1 (by decide)) (fun _ => ?_)
  refine lv_aload_n hx hb dJ0_charAt_5068e_7 rfl (lv_at hl 0 rfl) ?_
  refine vk_getf hx hb hY.2.2.1 hW.S hown (hpp _ pp312) (fun _ h => h) dJ0_charAt_5068e_8 ?_
  refine lv_iload_n hx hb dJ0_charAt_5068e_11 rfl (lv_at hl 1 rfl) ?_
  have hW : pq_W D _ s.heap L f _ [] H locs := hW
  refine pq_calli hW [] [] (by decide) rfl rfl (fun f9 hw9 hC9 => va_runS (As := [.ref v, .int (nI k)]) (rest := []) ⟨hx, hb, hml, hown, hts⟩ (c_J1_charAt_3b067 l D cy q v n b k hk hn _ L f9) (va_cwS 2 hts (pp_gS pp330 pp331 pp332 pp333) rfl rfl rfl pd_J1_charAt_3b067 ⟨Nat.le_of_ble_eq_true rfl, Nat.le_of_ble_eq_true rfl⟩) (py_pre hG hY hw9) rfl rfl hl.1 rfl (lv_room (Nat.le_of_ble_eq_true rfl)) dJ0_charAt_5068e_12 ⟨Nat.le_of_ble_eq_true rfl, Nat.le_of_ble_eq_true rfl⟩) (fun r cs1 H locs hP hW => ?_)
  obtain ⟨hr9, rfl⟩ := hP
  exact pq_iret hx hb hr hlocks hr9 hW rfl dJ0_charAt_5068e_15
set_option maxHeartbeats 4000000 in
set_option maxRecDepth 100000 in
theorem c_X13_word (l : Launch) (D : va_G) (cy : Nat → ClassId) (q v n : Nat) (b : Nat → Int32) (hn : n < 2 ^ 31) (sz : Nat) (L : List Nat) (f : Nat → va_E) : Met l yX13_word (Cond.code yX13_word cX13_word 4 (some .long) :: pp_ws) ({ frames := 4, cells := 0, slots := 0, locals := 86 }) (py_Pc D cy q v n b [.ref q] sz L f) (pq_Ql D sz L f [] (fun r cs1 => cs1 = [])) 0 0 (pw_A L f sz) := by
  refine Met.ofW (cc := cX13_word) (maxL := 4) (ret := (some .long)) (by decide) rfl ?_
  intro p e s m args below meth c s₁ B hml hv
  obtain ⟨rfl, hsz, hG, hY, hP, hD0⟩ := hv
  have hx := B.exec
  have hb := B.bytes
  have hr := B.returns
  have hts := atoms_spec (ws := Cond.code yX13_word cX13_word 4 (some .long) :: pp_ws) B.pre
  have hpp := fun (w : Cond) (h : w ∈ pp_ws) => hts w (List.mem_cons_of_mem _ h)
  have hown : s.vm.findClass RX13 = some m.cls := findClass_of_methodNamed B.named
  have hlocks := B.notSynchronized
  have hw := pw_start (cy := cy) hsz hP hD0
  have hW := pq_start (as := []) hw pq_C.nil rfl
  have hl := lv_entry ([.ref q]) (n := 4) (Nat.le_of_ble_eq_true rfl)
  rw [lg_entry_eq]
  generalize (lg_sl ([.ref q]) ++ List.replicate (4 - (lg_sl ([.ref q])).length) Slot.unset).toArray = ls at hl ⊢
  have hl : lv_has ls 4 [(0, .ref q)] := hl
  refine lv_lconst (v := 0) hx hb dX13_word_0 (by decide) ?_
  refine lv_lstore_n (lv' := [(1, .long 0), (0, .ref q)]) hx hb dX13_word_1 rfl hl (by decide) rfl (fun ls hl => ?_)
  refine lv_iconst (v := 0) hx hb dX13_word_2 (by decide) ?_
  refine lv_istore_n (lv' := [(3, .int 0), (1, .long 0), (0, .ref q)]) hx hb dX13_word_3 rfl hl (by decide) rfl (fun ls hl => ?_)
  have loop : ∀ (fu j : Nat) (w : Int64) (ls : Array Slot) (H : Heap) (locs : List Loc), 8 - j < fu → j ≤ 8 → lv_has ls 4 [(3, .int (nI j)), (1, .long w), (0, .ref q)] → pq_W D (pw_A L f sz) s.heap L f [] [] H locs → W p l e (headSpec (Cond.code yX13_word cX13_word 4 (some .long) :: pp_ws) ({ frames := 4, cells := 0, slots := 0, locals := 86 })).room s m [Value.ref q].toArray below meth c H locs 0 0 (MQ below (pq_Ql D sz L f [] (fun r cs1 => cs1 = [])) [Value.ref q].toArray s 0 0 (pw_A L f sz)) (F0 m 4 ls []) := by
    intro fu
    induction fu with
    | zero => intro j w ls H locs h _ _ _; omega
    | succ fu ih =>
      intro j w ls H locs hfu hj hl hW
      refine lv_iload_n hx hb dX13_word_4 rfl (lv_at hl 0 rfl) ?_
      refine lv_bipush (v := 8) hx hb dX13_word_5 (by decide) ?_
      refine lv_icmp_ge (tgt := 40) hx hb dX13_word_7 (by decide) (fun c1 => ?_) (fun c1 => ?_)
      · refine lv_lload_n hx hb dX13_word_40 rfl (lv_at hl 1 rfl) ?_
        exact pq_lret hx hb hr hlocks hW rfl dX13_word_41
      · have hj8 : j < 8 := by
          rcases Nat.lt_or_ge j 8 with h | h
          · exact h
          · exact absurd (show (8 : Int32) ≤ nI j from nI_le (a := 8) h (by omega)) c1
        refine lv_lload_n hx hb dX13_word_10 rfl (lv_at hl 1 rfl) ?_
        refine lv_bipush (v := 8) hx hb dX13_word_11 (by decide) ?_
        refine lv_lshl hx hb dX13_word_13 rfl ?_
        refine lv_topl (fun w1 _ => ?_)
        refine lv_iload_n hx hb dX13_word_14 rfl (lv_at hl 0 rfl) ?_
        refine lv_aload_n hx hb dX13_word_15 rfl (lv_at hl 2 rfl) ?_
        refine pq_calli hW [] [] (by decide) rfl rfl (fun f9 hw9 hC9 => va_runV (C := RJ0) (As := []) (rest := [.int (nI j), .long w1]) ⟨hx, hb, hml, hown, hts⟩ (c_J0_length_8abf5 l D cy q v n b hn _ L f9) (cwV 0 hts (pp_gV pp334 pp335 pp336 pp337 pp317) rfl rfl rfl pd_J0_length_8abf5 ⟨Nat.le_of_ble_eq_true rfl, Nat.le_of_ble_eq_true rfl⟩) (py_preV hG hY hw9) rfl rfl hl.1 rfl (lv_room (Nat.le_of_ble_eq_true rfl)) dX13_word_16 ⟨Nat.le_of_ble_eq_true rfl, Nat.le_of_ble_eq_true rfl⟩) (fun r cs1 H locs hP hW => ?_)
        obtain ⟨rfl, rfl⟩ := hP
        have hW : pq_W D (pw_A L f sz) s.heap L f [] [] H locs := hW
        have tail : ∀ (x : Int32) (H : Heap) (locs : List Loc), pq_W D (pw_A L f sz) s.heap L f [] [] H locs → W p l e (headSpec (Cond.code yX13_word cX13_word 4 (some .long) :: pp_ws) ({ frames := 4, cells := 0, slots := 0, locals := 86 })).room s m [Value.ref q].toArray below meth c H locs 0 0 (MQ below (pq_Ql D sz L f [] (fun r cs1 => cs1 = [])) [Value.ref q].toArray s 0 0 (pw_A L f sz)) (F0 m 31 ls [.int x, .long w1]) := fun x H locs hW => by
          refine lv_i2l (v := x.toInt64) hx hb dX13_word_31 rfl ?_
          refine lv_lor hx hb dX13_word_32 ?_
          refine lv_topl (fun w2 _ => ?_)
          refine lv_lstore_n (lv' := [(1, .long w2), (3, .int (nI j)), (0, .ref q)]) hx hb dX13_word_33 rfl hl (by decide) rfl (fun ls hl => ?_)
          refine lv_iinc (v := nI (j + 1)) (lv' := [(3, .int (nI (j + 1))), (1, .long w2), (0, .ref q)]) hx hb dX13_word_34 hl (k := 1) rfl (nI_1 j) (by decide) rfl (fun ls hl => ?_)
          refine lv_goto (tgt := 4) hx hb dX13_word_37 (by decide) ?_
          exact ih (j + 1) w2 ls H locs (by omega) (by omega) hl hW
        refine lv_icmp_ge (tgt := 30) hx hb dX13_word_19 (by decide) (fun c2 => ?_) (fun c2 => ?_)
        · refine lv_iconst (v := 0) hx hb dX13_word_30 (by decide) ?_
          exact tail 0 H locs hW
        · have hjn : j < n := by
            rcases Nat.lt_or_ge j n with h | h
            · exact h
            · exact absurd (nI_le h (by omega)) c2
          refine lv_aload_n hx hb dX13_word_22 rfl (lv_at hl 2 rfl) ?_
          refine lv_iload_n hx hb dX13_word_23 rfl (lv_at hl 0 rfl) ?_
          refine pq_calli hW [] [] (by decide) rfl rfl (fun f9 hw9 hC9 => va_runV (C := RJ0) (As := [.int (nI j)]) (rest := [.long w1]) ⟨hx, hb, hml, hown, hts⟩ (c_J0_charAt_5068e l D cy q v n b j hjn hn _ L f9) (cwV 1 hts (pp_gV pp338 pp339 pp340 pp341 pp317) rfl rfl rfl pd_J0_charAt_5068e ⟨Nat.le_of_ble_eq_true rfl, Nat.le_of_ble_eq_true rfl⟩) (py_preV hG hY hw9) rfl rfl hl.1 rfl (lv_room (Nat.le_of_ble_eq_true rfl)) dX13_word_24 ⟨Nat.le_of_ble_eq_true rfl, Nat.le_of_ble_eq_true rfl⟩) (fun r cs1 H locs hP hW => ?_)
          subst hP
          refine lv_goto (tgt := 31) hx hb dX13_word_27 (by decide) ?_
          exact tail r H locs hW
  exact loop 9 0 0 ls s.heap [] (by omega) (by omega) hl hW
