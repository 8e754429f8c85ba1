set_option maxHeartbeats 4000000 in
set_option maxRecDepth 100000 in
/-- the law's own end(x, n, out): 1 where the class throws, else 0 with the answer in out[0] -/
theorem c_L_end (l : Launch) (hl : l.stackTraces = false) (D : va_G) (cy : Nat → ClassId) (sa : Nat → Nat) (h0 tp ou sz : Nat) (L : List Nat) (f : Nat → va_E) (n z : Int32) (g : Nat → Int64) (hs ts : List Value) (ha : h0 ∈ L) (he : f h0 = .inr (12, hs)) (hh : hs[1]? = some (.ref tp)) (hta : tp ∈ L) (hte : f tp = .inr (9, ts)) (htl : 1 < ts.length) (htz : ts[1]? = some (.int z)) (hou : ou ∈ L) (hoe : f ou = .inl (cy 2, 1, .inr (.inl g))) :
    vx_Met l yL_end wsL_end ({ frames := 7, cells := 1, slots := 6, locals := 140 }) (px_Pc D cy sa [.ref h0, .int n, .ref ou] sz L f)
      (va_Qi (fun (r : Int32) (u : List Nat × (Nat → va_E)) => (r = 1 ∧ (n < 0 ∨ ¬ n ≤ z) ∧ u = (L, f)) ∨ (r = 0 ∧ ¬ n < 0 ∧ n ≤ z ∧ u = (L, va_up (va_up f tp (.inr (9, ts.set 1 (.int n)))) ou (.inl (cy 2, 1, .inr (.inl (vp_updL g 0 n.toInt64))))))) (pw_B D (pw_A L f sz)) (pw_A L f sz))
      (px_T D (pw_A L f sz) (fun _ _ => False)) 1 6 (pw_A L f sz) := by
  refine vx_ofWH (cc := cL_end) (maxL := 4) (ret := some .int) (by decide) rfl ?_
  intro p e s m args below meth c s₁ B hml hv
  obtain ⟨rfl, hsz, hG, hX, hP, hD0⟩ := hv
  have hx := B.exec
  have hb := B.bytes
  have hr := B.returns
  have hts := atoms_spec (ws := wsL_end) B.pre
  have hown : s.vm.findClass RL = some m.cls := findClass_of_methodNamed B.named
  have hlocks := B.notSynchronized
  have htab : tw_tab c [(0, 9, 12, 19)] := by
    obtain ⟨m', meth', c', h0', h1', h2', -, -, h5', -⟩ := Cond.codeWith_spec (hts (.codeWith yL_end cL_end 4 (some .int) [(0, 9, 12, 19)]) List.mem_cons_self)
    cases B.named.symm.trans h0'
    cases B.method.symm.trans h1'
    cases (Stand.of_body B).code.symm.trans h2'
    exact h5'
  have hw := pw_start (cy := cy) hsz hP hD0
  have hl0 := lv_entry ([.ref h0, .int n, .ref ou]) (n := 4) (Nat.le_of_ble_eq_true rfl)
  rw [lg_entry_eq]
  generalize (lg_sl ([.ref h0, .int n, .ref ou]) ++ List.replicate (4 - (lg_sl ([.ref h0, .int n, .ref ou])).length) Slot.unset).toArray = ls at hl0 ⊢
  have hl0 : lv_has ls 4 [(0, .ref h0), (1, .int n), (2, .ref ou)] := hl0
  refine lv_aload_n hx hb dL_end_0 rfl (lv_at hl0 2 rfl) ?_
  refine lv_iconst (v := 0) hx hb dL_end_1 (by decide) ?_
  refine lv_aload_n hx hb dL_end_2 rfl (lv_at hl0 0 rfl) ?_
  refine lv_iload_n hx hb dL_end_3 rfl (lv_at hl0 1 rfl) ?_
  refine px_calli hw (vx_runV (As := [.int n]) (rest := [.int 0, .ref ou]) ⟨hx, hb, hml, hown, hts⟩ (c_X12_end l hl D cy sa h0 tp s.heap.size L f n z hs ts ha he hh hta hte htl htz) (cwV 1 hts gL_end_X12_end rfl rfl rfl (by decide +kernel) ⟨Nat.le_of_ble_eq_true rfl, Nat.le_of_ble_eq_true rfl⟩) (px_preV hG hX hw ha he rfl) rfl rfl hl0.1 rfl (lv_room (Nat.le_of_ble_eq_true rfl)) dL_end_4 ⟨Nat.le_of_ble_eq_true rfl, Nat.le_of_ble_eq_true rfl⟩) (fun E ce q9 L1 f1 H locs hw hp hce hcv hcl => ?_) (fun r L1 f1 H locs hw hp => ?_)
  · obtain ⟨rfl, hq, hu⟩ := hp
    cases hu
    refine vx_catch1 (C := px_IAE) (name := "java/lang/IllegalArgumentException") htab hown (by decide) (by decide) (hts (.classLink RL 19 "java/lang/IllegalArgumentException") (by decide +kernel)) (va_Nw.use rfl hX.2.1.1) hce hcv hcl ?_
    refine lv_astore_n (lv' := [(3, .ref q9), (0, .ref h0), (1, .int n), (2, .ref ou)]) hx hb dL_end_12 rfl hl0 (by decide) rfl (fun ls hl0 => ?_)
    refine lv_iconst (v := 1) hx hb dL_end_13 (by decide) ?_
    exact px_iret hx hb hr hlocks hw (Or.inl ⟨rfl, hq, rfl⟩) (Nat.le_of_ble_eq_true rfl) (Nat.le_of_ble_eq_true rfl) dL_end_14
  · obtain ⟨h1, h2, rfl, hu⟩ := hp
    cases hu
    have hne : ou ≠ tp := fun q => by rw [q, hte] at hoe; cases hoe
    refine lv_i2l (v := r.toInt64) hx hb dL_end_7 rfl ?_
    refine pw_last (t0 := 2) (cA := cy 2) hx hb hG hw hou (by rw [va_up_ne _ _ hne]; exact hoe) rfl (vp_in_iff.mpr ⟨by decide, by decide⟩) dL_end_8 (fun H locs hw => ?_)
    refine lv_goto (tgt := 15) hx hb dL_end_9 (by decide) ?_
    refine lv_iconst (v := 0) hx hb dL_end_15 (by decide) ?_
    exact px_iret hx hb hr hlocks hw (Or.inr ⟨rfl, h1, h2, rfl⟩) (Nat.le_of_ble_eq_true rfl) (Nat.le_of_ble_eq_true rfl) dL_end_16
