set_option maxHeartbeats 4000000 in
set_option maxRecDepth 100000 in
/-- end(n): THE TAPE is cut to n bytes, or it throws and nothing changed -/
theorem c_X12_end (l : Launch) (hl : l.stackTraces = false) (D : va_G) (cy : Nat → ClassId) (sa : Nat → Nat) (h0 tp sz : Nat) (L : List Nat) (f : Nat → va_E) (n z : Int32) (hs ts : List Value) (ha : h0 ∈ L) (he : f h0 = .inr (12, hs)) (hh : hs[1]? = some (.ref tp)) (hta : tp ∈ L) (hte : f tp = .inr (9, ts)) (htl : 1 < ts.length) (htz : ts[1]? = some (.int z)) :
    vx_Met l yX12_end wsX12_end ({ frames := 6, cells := 1, slots := 6, locals := 100 }) (px_Pc D cy sa [.ref h0, .int n] sz L f)
      (va_Qi (fun (r : Int32) (u : List Nat × (Nat → va_E)) => ¬ n < 0 ∧ n ≤ z ∧ r = n ∧ u = (L, va_up f tp (.inr (9, ts.set 1 (.int n))))) (pw_B D (pw_A L f sz)) (pw_A L f sz))
      (px_T D (pw_A L f sz) (fun E u => E = px_IAE ∧ (n < 0 ∨ ¬ n ≤ z) ∧ u = (L, f))) 1 6 (pw_A L f sz) := by
  refine vx_ofW (cc := cX12_end) (maxL := 2) (ret := some .int) (by decide) rfl ?_
  intro p e s m args below meth c s₁ B hml hno hv
  obtain ⟨rfl, hsz, hG, hX, hP, hD0⟩ := hv
  have hx := B.exec
  have hb := B.bytes
  have hr := B.returns
  have hts := atoms_spec (ws := wsX12_end) B.pre
  have hown : s.vm.findClass RX12 = some m.cls := findClass_of_methodNamed B.named
  have hlocks := B.notSynchronized
  have hw := pw_start (cy := cy) hsz hP hD0
  have hl0 := lv_entry ([.ref h0, .int n]) (n := 2) (Nat.le_of_ble_eq_true rfl)
  rw [lg_entry_eq]
  generalize (lg_sl ([.ref h0, .int n]) ++ List.replicate (2 - (lg_sl ([.ref h0, .int n])).length) Slot.unset).toArray = ls at hl0 ⊢
  have hl0 : lv_has ls 2 [(0, .ref h0), (1, .int n)] := hl0
  have hi12 : ∀ w ∈ u_ws RX12 TX12 17, w ∈ wsX12_end := fun _ h => List.mem_cons_of_mem _ (List.mem_append_left _ (List.mem_append_left _ (List.mem_append_right _ h)))
  have hi9 : ∀ w ∈ u_ws RX9 TX9 10, w ∈ wsX12_end := fun _ h => List.mem_cons_of_mem _ (List.mem_append_left _ (List.mem_append_right _ h))
  have hthr : ∀ (q : n < 0 ∨ ¬ n ≤ z), W p l e (headSpec wsX12_end { frames := 6, cells := 1, slots := 6, locals := 100 }).room s m [Value.ref h0, Value.int n].toArray below meth c s.heap [] 0 0 (vx_MQ below (va_Qi (fun (r : Int32) (u : List Nat × (Nat → va_E)) => ¬ n < 0 ∧ n ≤ z ∧ r = n ∧ u = (L, va_up f tp (.inr (9, ts.set 1 (.int n))))) (pw_B D (pw_A L f sz)) (pw_A L f sz)) (px_T D (pw_A L f sz) (fun E u => E = px_IAE ∧ (n < 0 ∨ ¬ n ≤ z) ∧ u = (L, f))) [Value.ref h0, Value.int n].toArray s 1 6 (pw_A L f sz)) (F0 m 15 ls []) := fun q =>
    px_throw (cls := "java/lang/IllegalArgumentException") (text := "the tape has not so many bytes") hx hb hl hts hown (by decide +kernel) hX.2.1.1 (hts (.classLink RX12 115 "java/lang/IllegalArgumentException") (by decide +kernel)) (hts (.initialized "java/lang/IllegalArgumentException") (by decide +kernel)) (by decide +kernel) (fun w h => List.mem_cons_of_mem _ (List.mem_append_right _ h)) (by decide +kernel) (by decide +kernel) hX hw ⟨rfl, q, rfl⟩ (hl0.1.trans hml.symm) dX12_end_15 dX12_end_18 dX12_end_19 dX12_end_21 dX12_end_24 hno (Nat.le_of_ble_eq_true rfl) (Nat.le_of_ble_eq_true rfl) (Nat.le_of_ble_eq_true rfl) (Nat.le_of_ble_eq_true rfl) hlocks (Nat.le_of_ble_eq_true rfl) (Nat.le_of_ble_eq_true rfl)
  refine lv_iload_n hx hb dX12_end_0 rfl (lv_at hl0 1 rfl) ?_
  refine lv_if_lt (tgt := 15) hx hb dX12_end_1 (by decide) (fun c1 => hthr (Or.inl c1)) (fun c1 => ?_)
  refine lv_iload_n hx hb dX12_end_4 rfl (lv_at hl0 1 rfl) ?_
  refine lv_aload_n hx hb dX12_end_5 rfl (lv_at hl0 0 rfl) ?_
  refine pw_get (ci := 12) (v := .ref tp) (C := RX12) (T := TX12) (N := 17) hx hb hts hi12 hown hG hw ha he rfl 1 (by decide) (hts (.fieldLink RX12 19 "TongueHouse" "tape" "LTongueHouse$Text;") (by decide +kernel)) (fun _ h9 => h9) hh dX12_end_6 ?_
  refine pw_get (ci := 9) (v := .int z) (C := RX9) (T := TX9) (N := 10) hx hb hts hi9 hown hG hw hta hte rfl 1 (by decide) (hts (.fieldLink RX12 100 "TongueHouse$Text" "size" "I") (by decide +kernel)) (fun _ h9 => h9) htz dX12_end_9 ?_
  refine lv_icmp_le (tgt := 25) hx hb dX12_end_12 (by decide) (fun c2 => ?_) (fun c2 => hthr (Or.inr c2))
  refine lv_aload_n hx hb dX12_end_25 rfl (lv_at hl0 0 rfl) ?_
  refine pw_get (ci := 12) (v := .ref tp) (C := RX12) (T := TX12) (N := 17) hx hb hts hi12 hown hG hw ha he rfl 1 (by decide) (hts (.fieldLink RX12 19 "TongueHouse" "tape" "LTongueHouse$Text;") (by decide +kernel)) (fun _ h9 => h9) hh dX12_end_26 ?_
  refine lv_iload_n hx hb dX12_end_29 rfl (lv_at hl0 1 rfl) ?_
  refine pw_put (ci := 9) (v := .int n) (ty := .int) (C := RX9) (T := TX9) (N := 10) hx hb hts hi9 tyX9 tyX9_ok nmX9 hown hG hw hta hte rfl 1 (by decide) (hts (.fieldLink RX12 100 "TongueHouse$Text" "size" "I") (by decide +kernel)) (fun _ h9 => h9) rfl (by decide +kernel) rfl rfl htl dX12_end_30 (fun H locs hw => ?_)
  refine lv_iload_n hx hb dX12_end_33 rfl (lv_at hl0 1 rfl) ?_
  exact px_iret hx hb hr hlocks hw ⟨c1, c2, rfl, rfl⟩ (Nat.zero_le _) (Nat.zero_le _) dX12_end_34
