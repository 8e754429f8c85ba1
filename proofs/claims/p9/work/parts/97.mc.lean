/-! THE WRAPPERS, further. -/
set_option maxHeartbeats 2000000 in
theorem w_tree_n {l : Launch} {D : va_G} {cy : Nat → ClassId} {sa : Nat → Nat} {sv : Nat} {ws0 : List Cond} {tb : String → gz_T} (K : gl_K l D cy sa sv ws0 tb) (hV : gx_lV ws0 RL 54 (yX12_tree, cX12_tree, 3, (some .int)) 1) {sh : gz_Sh} {h : gz_H} (a1 : Int) {shₚ : gz_Sh} {hₚ : gz_H} {a s : Nat} (z : Int) (E : gz_Ev ws0 tb 100 (yX12_tree, cX12_tree, 3, (some .int)) [.inr (.inr (some 0)), .inl a1] sh h (some (.inl z)) shₚ hₚ a s) (hS : sh[0]? = some (false, 12, 17)) (sz ou : Nat) (g : Nat → Int64) (L : List Nat) (hL : L.length = sh.length) : vx_Met l yL_tree (Cond.codeWith yL_tree cL_tree 4 (some .int) [(0, 9, 12, 19)] :: ws0) (gz_rm 101 a s) (gl_Pc D cy sa sv [.ref (gz_al sa L 0), .int (Int32.ofInt a1), .ref ou] sz (gp_ou cy ou g :: va_pl L (gz_f cy sa L sh h))) (gl_Q D cy sa (va_A (gp_ou cy ou g :: va_pl L (gz_f cy sa L sh h)) sz) ou L 0 shₚ hₚ (fun gₚ => gₚ 0 = (Int32.ofInt z).toInt64)) gl_No a s (va_A (gp_ou cy ou g :: va_pl L (gz_f cy sa L sh h)) sz) := by
  refine vx_ofWH (cc := cL_tree) (maxL := 4) (ret := (some .int)) (by decide) rfl ?_
  intro p e s9 m args below meth c s₁ B hml hv
  obtain ⟨rfl, hsz, hG, hX, hP, hD0⟩ := hv
  have hx := B.exec
  have hb := B.bytes
  have hr := B.returns
  have hts := atoms_spec (ws := Cond.codeWith yL_tree cL_tree 4 (some .int) [(0, 9, 12, 19)] :: ws0) B.pre
  have hpp := fun (w : Cond) (h : w ∈ ws0) => hts w (List.mem_cons_of_mem _ h)
  have hown : s9.vm.findClass RL = some m.cls := findClass_of_methodNamed B.named
  have hlocks := B.notSynchronized
  have hw := gl_start (sv := sv) hsz hP hD0
  have hl := lv_entry ([.ref (gz_al sa L 0), .int (Int32.ofInt a1), .ref ou]) (n := 4) (Nat.le_of_ble_eq_true rfl)
  rw [lg_entry_eq]
  generalize (lg_sl ([.ref (gz_al sa L 0), .int (Int32.ofInt a1), .ref ou]) ++ List.replicate (4 - (lg_sl ([.ref (gz_al sa L 0), .int (Int32.ofInt a1), .ref ou])).length) Slot.unset).toArray = ls at hl ⊢
  have hl : lv_has ls 4 [(0, .ref (gz_al sa L 0)), (1, .int (Int32.ofInt a1)), (2, .ref ou)] := hl
  refine lv_aload_n hx hb (gx_d (gq_ok oL_tree 0 (.aload_n 2) rfl) rfl rfl) rfl (lv_at hl 2 rfl) ?_
  refine lv_iconst (v := 0) hx hb (gx_d (gq_ok oL_tree 1 (.iconst 0) rfl) rfl rfl) (by decide) ?_
  refine lv_aload_n hx hb (gx_d (gq_ok oL_tree 2 (.aload_n 0) rfl) rfl rfl) rfl (lv_at hl 0 rfl) ?_
  refine lv_iload_n hx hb (gx_d (gq_ok oL_tree 3 (.iload_n 1) rfl) rfl rfl) rfl (lv_at hl 1 rfl) ?_
  refine gl_callV (own := RL) (As := [.inl a1]) (rest := [.int 0, .ref ou]) (ci := 12) K hx hb hml hpp hown hG hX hV rfl hS E hL hl.1 ⟨Nat.le_refl _, Nat.le_refl _⟩ ⟨Nat.le_of_eq (Nat.zero_add _), Nat.le_of_eq (Nat.zero_add _)⟩ (Nat.le_of_ble_eq_true rfl) (gp_W.comm (w1 := [gp_ou cy ou g]) hw) (gx_d (gq_ok oL_tree 4 (.invokevirtual 54) rfl) rfl rfl) (fun Lₚ H1 locs1 hp hlen hw1 => ?_)
  have hw1 := hw1.comm
  show W _ _ _ _ _ _ _ _ _ _ _ _ _ _ _ (F0 m 7 ls [.int (Int32.ofInt z), .int 0, .ref ou])
  refine lv_i2l (v := (Int32.ofInt z).toInt64) hx hb (gx_d (gq_ok oL_tree 7 (.i2l) rfl) rfl rfl) rfl ?_
  refine gp_last hx hb hG hw1 (gx_d (gq_ok oL_tree 8 (.lastore) rfl) rfl rfl) (fun H2 locs2 hw2 => ?_)
  refine lv_goto (tgt := 15) hx hb (gx_d (gq_ok oL_tree 9 (.goto 6) rfl) rfl rfl) (by decide) ?_
  refine lv_iconst (v := 0) hx hb (gx_d (gq_ok oL_tree 15 (.iconst 0) rfl) rfl rfl) (by decide) ?_
  exact gl_iret hx hb hr hlocks hw2 hp hlen rfl (Nat.le_of_eq (Nat.zero_add _)) (Nat.le_of_eq (Nat.zero_add _)) (gx_d (gq_ok oL_tree 16 (.ireturn) rfl) rfl rfl)
set_option maxHeartbeats 2000000 in
theorem w_tree_x {l : Launch} {D : va_G} {cy : Nat → ClassId} {sa : Nat → Nat} {sv : Nat} {ws0 : List Cond} {tb : String → gz_T} (K : gl_K l D cy sa sv ws0 tb) (hV : gx_lV ws0 RL 54 (yX12_tree, cX12_tree, 3, (some .int)) 1) (hcl : Cond.classLink RL 19 "java/lang/IllegalArgumentException" ∈ ws0) {sh : gz_Sh} {h : gz_H} (a1 : Int) (T : gk_T9 ws0 tb (yX12_tree, cX12_tree, 3, (some .int)) [.inr (.inr (some 0)), .inl a1] sh h px_IAE) (hS : sh[0]? = some (false, 12, 17)) (sz ou : Nat) (g : Nat → Int64) (L : List Nat) (hL : L.length = sh.length) : vx_Met l yL_tree (Cond.codeWith yL_tree cL_tree 4 (some .int) [(0, 9, 12, 19)] :: ws0) (gz_rm 101 1 6) (gl_Pc D cy sa sv [.ref (gz_al sa L 0), .int (Int32.ofInt a1), .ref ou] sz (gp_ou cy ou g :: va_pl L (gz_f cy sa L sh h))) (gl_Q D cy sa (va_A (gp_ou cy ou g :: va_pl L (gz_f cy sa L sh h)) sz) ou L 1 sh h (fun _ => True)) gl_No 1 6 (va_A (gp_ou cy ou g :: va_pl L (gz_f cy sa L sh h)) sz) := by
  refine vx_ofWH (cc := cL_tree) (maxL := 4) (ret := (some .int)) (by decide) rfl ?_
  intro p e s9 m args below meth c s₁ B hml hv
  obtain ⟨rfl, hsz, hG, hX, hP, hD0⟩ := hv
  have hx := B.exec
  have hb := B.bytes
  have hr := B.returns
  have hts := atoms_spec (ws := Cond.codeWith yL_tree cL_tree 4 (some .int) [(0, 9, 12, 19)] :: ws0) B.pre
  have hpp := fun (w : Cond) (h : w ∈ ws0) => hts w (List.mem_cons_of_mem _ h)
  have hown : s9.vm.findClass RL = some m.cls := findClass_of_methodNamed B.named
  have hlocks := B.notSynchronized
  have htab : tw_tab c [(0, 9, 12, 19)] := by
    obtain ⟨m', meth', c', h0', h1', h2', -, -, h5', -⟩ := Cond.codeWith_spec (hts (.codeWith yL_tree cL_tree 4 (some .int) [(0, 9, 12, 19)]) List.mem_cons_self)
    cases B.named.symm.trans h0'
    cases B.method.symm.trans h1'
    cases (Stand.of_body B).code.symm.trans h2'
    exact h5'
  have hw := gl_start (sv := sv) hsz hP hD0
  have hl := lv_entry ([.ref (gz_al sa L 0), .int (Int32.ofInt a1), .ref ou]) (n := 4) (Nat.le_of_ble_eq_true rfl)
  rw [lg_entry_eq]
  generalize (lg_sl ([.ref (gz_al sa L 0), .int (Int32.ofInt a1), .ref ou]) ++ List.replicate (4 - (lg_sl ([.ref (gz_al sa L 0), .int (Int32.ofInt a1), .ref ou])).length) Slot.unset).toArray = ls at hl ⊢
  have hl : lv_has ls 4 [(0, .ref (gz_al sa L 0)), (1, .int (Int32.ofInt a1)), (2, .ref ou)] := hl
  refine lv_aload_n hx hb (gx_d (gq_ok oL_tree 0 (.aload_n 2) rfl) rfl rfl) rfl (lv_at hl 2 rfl) ?_
  refine lv_iconst (v := 0) hx hb (gx_d (gq_ok oL_tree 1 (.iconst 0) rfl) rfl rfl) (by decide) ?_
  refine lv_aload_n hx hb (gx_d (gq_ok oL_tree 2 (.aload_n 0) rfl) rfl rfl) rfl (lv_at hl 0 rfl) ?_
  refine lv_iload_n hx hb (gx_d (gq_ok oL_tree 3 (.iload_n 1) rfl) rfl rfl) rfl (lv_at hl 1 rfl) ?_
  refine gl_xcallV (own := RL) (As := [.inl a1]) (rest := [.int 0, .ref ou]) (ci := 12) K hx hb hml hpp hown hG hX hV rfl hS T hL hl.1 ⟨Nat.le_refl _, Nat.le_refl _⟩ ⟨Nat.le_of_eq (Nat.zero_add _), Nat.le_of_eq (Nat.zero_add _)⟩ (Nat.le_of_ble_eq_true rfl) (gp_W.comm (w1 := [gp_ou cy ou g]) hw) (gx_d (gq_ok oL_tree 4 (.invokevirtual 54) rfl) rfl rfl) (fun Lₚ ce q9 H1 locs1 hp hlen hw1 hce hcv hcf => ?_)
  have hw1 := hw1.comm
  refine vx_catch1 (C := px_IAE) (name := "java/lang/IllegalArgumentException") htab hown (by decide) (by decide) (hpp _ hcl) (va_Nw.use rfl hX.1.2.1.1) hce hcv hcf ?_
  refine lv_astore_n (lv' := (3, .ref q9) :: [(0, .ref (gz_al sa L 0)), (1, .int (Int32.ofInt a1)), (2, .ref ou)]) hx hb (gx_d (gq_ok oL_tree 12 (.astore_n 3) rfl) rfl rfl) rfl hl (by decide) rfl (fun ls hl => ?_)
  refine lv_iconst (v := 1) hx hb (gx_d (gq_ok oL_tree 13 (.iconst 1) rfl) rfl rfl) (by decide) ?_
  exact gl_iret hx hb hr hlocks hw1 hp hlen trivial (Nat.le_of_eq (Nat.zero_add _)) (Nat.le_of_eq (Nat.zero_add _)) (gx_d (gq_ok oL_tree 14 (.ireturn) rfl) rfl rfl)
set_option maxHeartbeats 2000000 in
theorem w_show_n {l : Launch} {D : va_G} {cy : Nat → ClassId} {sa : Nat → Nat} {sv : Nat} {ws0 : List Cond} {tb : String → gz_T} (K : gl_K l D cy sa sv ws0 tb) (hV : gx_lV ws0 RL 57 (yX12_show, cX12_show, 2, (some .int)) 1) {sh : gz_Sh} {h : gz_H} (a1 : Int) {shₚ : gz_Sh} {hₚ : gz_H} {a s : Nat} (z : Int) (E : gz_Ev ws0 tb 100 (yX12_show, cX12_show, 2, (some .int)) [.inr (.inr (some 0)), .inl a1] sh h (some (.inl z)) shₚ hₚ a s) (hS : sh[0]? = some (false, 12, 17)) (sz ou : Nat) (g : Nat → Int64) (L : List Nat) (hL : L.length = sh.length) : vx_Met l yL_show (Cond.codeWith yL_show cL_show 4 (some .int) [(0, 9, 12, 19)] :: ws0) (gz_rm 101 a s) (gl_Pc D cy sa sv [.ref (gz_al sa L 0), .int (Int32.ofInt a1), .ref ou] sz (gp_ou cy ou g :: va_pl L (gz_f cy sa L sh h))) (gl_Q D cy sa (va_A (gp_ou cy ou g :: va_pl L (gz_f cy sa L sh h)) sz) ou L 0 shₚ hₚ (fun gₚ => gₚ 0 = (Int32.ofInt z).toInt64)) gl_No a s (va_A (gp_ou cy ou g :: va_pl L (gz_f cy sa L sh h)) sz) := by
  refine vx_ofWH (cc := cL_show) (maxL := 4) (ret := (some .int)) (by decide) rfl ?_
  intro p e s9 m args below meth c s₁ B hml hv
  obtain ⟨rfl, hsz, hG, hX, hP, hD0⟩ := hv
  have hx := B.exec
  have hb := B.bytes
  have hr := B.returns
  have hts := atoms_spec (ws := Cond.codeWith yL_show cL_show 4 (some .int) [(0, 9, 12, 19)] :: ws0) B.pre
  have hpp := fun (w : Cond) (h : w ∈ ws0) => hts w (List.mem_cons_of_mem _ h)
  have hown : s9.vm.findClass RL = some m.cls := findClass_of_methodNamed B.named
  have hlocks := B.notSynchronized
  have hw := gl_start (sv := sv) hsz hP hD0
  have hl := lv_entry ([.ref (gz_al sa L 0), .int (Int32.ofInt a1), .ref ou]) (n := 4) (Nat.le_of_ble_eq_true rfl)
  rw [lg_entry_eq]
  generalize (lg_sl ([.ref (gz_al sa L 0), .int (Int32.ofInt a1), .ref ou]) ++ List.replicate (4 - (lg_sl ([.ref (gz_al sa L 0), .int (Int32.ofInt a1), .ref ou])).length) Slot.unset).toArray = ls at hl ⊢
  have hl : lv_has ls 4 [(0, .ref (gz_al sa L 0)), (1, .int (Int32.ofInt a1)), (2, .ref ou)] := hl
  refine lv_aload_n hx hb (gx_d (gq_ok oL_show 0 (.aload_n 2) rfl) rfl rfl) rfl (lv_at hl 2 rfl) ?_
  refine lv_iconst (v := 0) hx hb (gx_d (gq_ok oL_show 1 (.iconst 0) rfl) rfl rfl) (by decide) ?_
  refine lv_aload_n hx hb (gx_d (gq_ok oL_show 2 (.aload_n 0) rfl) rfl rfl) rfl (lv_at hl 0 rfl) ?_
  refine lv_iload_n hx hb (gx_d (gq_ok oL_show 3 (.iload_n 1) rfl) rfl rfl) rfl (lv_at hl 1 rfl) ?_
  refine gl_callV (own := RL) (As := [.inl a1]) (rest := [.int 0, .ref ou]) (ci := 12) K hx hb hml hpp hown hG hX hV rfl hS E hL hl.1 ⟨Nat.le_refl _, Nat.le_refl _⟩ ⟨Nat.le_of_eq (Nat.zero_add _), Nat.le_of_eq (Nat.zero_add _)⟩ (Nat.le_of_ble_eq_true rfl) (gp_W.comm (w1 := [gp_ou cy ou g]) hw) (gx_d (gq_ok oL_show 4 (.invokevirtual 57) rfl) rfl rfl) (fun Lₚ H1 locs1 hp hlen hw1 => ?_)
  have hw1 := hw1.comm
  show W _ _ _ _ _ _ _ _ _ _ _ _ _ _ _ (F0 m 7 ls [.int (Int32.ofInt z), .int 0, .ref ou])
  refine lv_i2l (v := (Int32.ofInt z).toInt64) hx hb (gx_d (gq_ok oL_show 7 (.i2l) rfl) rfl rfl) rfl ?_
  refine gp_last hx hb hG hw1 (gx_d (gq_ok oL_show 8 (.lastore) rfl) rfl rfl) (fun H2 locs2 hw2 => ?_)
  refine lv_goto (tgt := 15) hx hb (gx_d (gq_ok oL_show 9 (.goto 6) rfl) rfl rfl) (by decide) ?_
  refine lv_iconst (v := 0) hx hb (gx_d (gq_ok oL_show 15 (.iconst 0) rfl) rfl rfl) (by decide) ?_
  exact gl_iret hx hb hr hlocks hw2 hp hlen rfl (Nat.le_of_eq (Nat.zero_add _)) (Nat.le_of_eq (Nat.zero_add _)) (gx_d (gq_ok oL_show 16 (.ireturn) rfl) rfl rfl)
set_option maxHeartbeats 2000000 in
theorem w_show_x {l : Launch} {D : va_G} {cy : Nat → ClassId} {sa : Nat → Nat} {sv : Nat} {ws0 : List Cond} {tb : String → gz_T} (K : gl_K l D cy sa sv ws0 tb) (hV : gx_lV ws0 RL 57 (yX12_show, cX12_show, 2, (some .int)) 1) (hcl : Cond.classLink RL 19 "java/lang/IllegalArgumentException" ∈ ws0) {sh : gz_Sh} {h : gz_H} (a1 : Int) (T : gk_T9 ws0 tb (yX12_show, cX12_show, 2, (some .int)) [.inr (.inr (some 0)), .inl a1] sh h px_IAE) (hS : sh[0]? = some (false, 12, 17)) (sz ou : Nat) (g : Nat → Int64) (L : List Nat) (hL : L.length = sh.length) : vx_Met l yL_show (Cond.codeWith yL_show cL_show 4 (some .int) [(0, 9, 12, 19)] :: ws0) (gz_rm 101 1 6) (gl_Pc D cy sa sv [.ref (gz_al sa L 0), .int (Int32.ofInt a1), .ref ou] sz (gp_ou cy ou g :: va_pl L (gz_f cy sa L sh h))) (gl_Q D cy sa (va_A (gp_ou cy ou g :: va_pl L (gz_f cy sa L sh h)) sz) ou L 1 sh h (fun _ => True)) gl_No 1 6 (va_A (gp_ou cy ou g :: va_pl L (gz_f cy sa L sh h)) sz) := by
  refine vx_ofWH (cc := cL_show) (maxL := 4) (ret := (some .int)) (by decide) rfl ?_
  intro p e s9 m args below meth c s₁ B hml hv
  obtain ⟨rfl, hsz, hG, hX, hP, hD0⟩ := hv
  have hx := B.exec
  have hb := B.bytes
  have hr := B.returns
  have hts := atoms_spec (ws := Cond.codeWith yL_show cL_show 4 (some .int) [(0, 9, 12, 19)] :: ws0) B.pre
  have hpp := fun (w : Cond) (h : w ∈ ws0) => hts w (List.mem_cons_of_mem _ h)
  have hown : s9.vm.findClass RL = some m.cls := findClass_of_methodNamed B.named
  have hlocks := B.notSynchronized
  have htab : tw_tab c [(0, 9, 12, 19)] := by
    obtain ⟨m', meth', c', h0', h1', h2', -, -, h5', -⟩ := Cond.codeWith_spec (hts (.codeWith yL_show cL_show 4 (some .int) [(0, 9, 12, 19)]) List.mem_cons_self)
    cases B.named.symm.trans h0'
    cases B.method.symm.trans h1'
    cases (Stand.of_body B).code.symm.trans h2'
    exact h5'
  have hw := gl_start (sv := sv) hsz hP hD0
  have hl := lv_entry ([.ref (gz_al sa L 0), .int (Int32.ofInt a1), .ref ou]) (n := 4) (Nat.le_of_ble_eq_true rfl)
  rw [lg_entry_eq]
  generalize (lg_sl ([.ref (gz_al sa L 0), .int (Int32.ofInt a1), .ref ou]) ++ List.replicate (4 - (lg_sl ([.ref (gz_al sa L 0), .int (Int32.ofInt a1), .ref ou])).length) Slot.unset).toArray = ls at hl ⊢
  have hl : lv_has ls 4 [(0, .ref (gz_al sa L 0)), (1, .int (Int32.ofInt a1)), (2, .ref ou)] := hl
  refine lv_aload_n hx hb (gx_d (gq_ok oL_show 0 (.aload_n 2) rfl) rfl rfl) rfl (lv_at hl 2 rfl) ?_
  refine lv_iconst (v := 0) hx hb (gx_d (gq_ok oL_show 1 (.iconst 0) rfl) rfl rfl) (by decide) ?_
  refine lv_aload_n hx hb (gx_d (gq_ok oL_show 2 (.aload_n 0) rfl) rfl rfl) rfl (lv_at hl 0 rfl) ?_
  refine lv_iload_n hx hb (gx_d (gq_ok oL_show 3 (.iload_n 1) rfl) rfl rfl) rfl (lv_at hl 1 rfl) ?_
  refine gl_xcallV (own := RL) (As := [.inl a1]) (rest := [.int 0, .ref ou]) (ci := 12) K hx hb hml hpp hown hG hX hV rfl hS T hL hl.1 ⟨Nat.le_refl _, Nat.le_refl _⟩ ⟨Nat.le_of_eq (Nat.zero_add _), Nat.le_of_eq (Nat.zero_add _)⟩ (Nat.le_of_ble_eq_true rfl) (gp_W.comm (w1 := [gp_ou cy ou g]) hw) (gx_d (gq_ok oL_show 4 (.invokevirtual 57) rfl) rfl rfl) (fun Lₚ ce q9 H1 locs1 hp hlen hw1 hce hcv hcf => ?_)
  have hw1 := hw1.comm
  refine vx_catch1 (C := px_IAE) (name := "java/lang/IllegalArgumentException") htab hown (by decide) (by decide) (hpp _ hcl) (va_Nw.use rfl hX.1.2.1.1) hce hcv hcf ?_
  refine lv_astore_n (lv' := (3, .ref q9) :: [(0, .ref (gz_al sa L 0)), (1, .int (Int32.ofInt a1)), (2, .ref ou)]) hx hb (gx_d (gq_ok oL_show 12 (.astore_n 3) rfl) rfl rfl) rfl hl (by decide) rfl (fun ls hl => ?_)
  refine lv_iconst (v := 1) hx hb (gx_d (gq_ok oL_show 13 (.iconst 1) rfl) rfl rfl) (by decide) ?_
  exact gl_iret hx hb hr hlocks hw1 hp hlen trivial (Nat.le_of_eq (Nat.zero_add _)) (Nat.le_of_eq (Nat.zero_add _)) (gx_d (gq_ok oL_show 14 (.ireturn) rfl) rfl rfl)
set_option maxHeartbeats 2000000 in
theorem w_same_n {l : Launch} {D : va_G} {cy : Nat → ClassId} {sa : Nat → Nat} {sv : Nat} {ws0 : List Cond} {tb : String → gz_T} (K : gl_K l D cy sa sv ws0 tb) (hV : gx_lV ws0 RL 60 (yX12_same, cX12_same, 4, (some .boolean)) 2) {sh : gz_Sh} {h : gz_H} (a1 : Int)  (a2 : Int) {shₚ : gz_Sh} {hₚ : gz_H} {a s : Nat} (z : Int) (hz : z = 0 ∨ z = 1) (E : gz_Ev ws0 tb 100 (yX12_same, cX12_same, 4, (some .boolean)) [.inr (.inr (some 0)), .inl a1, .inl a2] sh h (some (.inl z)) shₚ hₚ a s) (hS : sh[0]? = some (false, 12, 17)) (sz ou : Nat) (g : Nat → Int64) (L : List Nat) (hL : L.length = sh.length) : vx_Met l yL_same (Cond.codeWith yL_same cL_same 5 (some .int) [(0, 17, 20, 19)] :: ws0) (gz_rm 101 a s) (gl_Pc D cy sa sv [.ref (gz_al sa L 0), .int (Int32.ofInt a1), .int (Int32.ofInt a2), .ref ou] sz (gp_ou cy ou g :: va_pl L (gz_f cy sa L sh h))) (gl_Q D cy sa (va_A (gp_ou cy ou g :: va_pl L (gz_f cy sa L sh h)) sz) ou L 0 shₚ hₚ (fun _ => True)) gl_No a s (va_A (gp_ou cy ou g :: va_pl L (gz_f cy sa L sh h)) sz) := by
  refine vx_ofWH (cc := cL_same) (maxL := 5) (ret := (some .int)) (by decide) rfl ?_
  intro p e s9 m args below meth c s₁ B hml hv
  obtain ⟨rfl, hsz, hG, hX, hP, hD0⟩ := hv
  have hx := B.exec
  have hb := B.bytes
  have hr := B.returns
  have hts := atoms_spec (ws := Cond.codeWith yL_same cL_same 5 (some .int) [(0, 17, 20, 19)] :: ws0) B.pre
  have hpp := fun (w : Cond) (h : w ∈ ws0) => hts w (List.mem_cons_of_mem _ h)
  have hown : s9.vm.findClass RL = some m.cls := findClass_of_methodNamed B.named
  have hlocks := B.notSynchronized
  have hw := gl_start (sv := sv) hsz hP hD0
  have hl := lv_entry ([.ref (gz_al sa L 0), .int (Int32.ofInt a1), .int (Int32.ofInt a2), .ref ou]) (n := 5) (Nat.le_of_ble_eq_true rfl)
  rw [lg_entry_eq]
  generalize (lg_sl ([.ref (gz_al sa L 0), .int (Int32.ofInt a1), .int (Int32.ofInt a2), .ref ou]) ++ List.replicate (5 - (lg_sl ([.ref (gz_al sa L 0), .int (Int32.ofInt a1), .int (Int32.ofInt a2), .ref ou])).length) Slot.unset).toArray = ls at hl ⊢
  have hl : lv_has ls 5 [(0, .ref (gz_al sa L 0)), (1, .int (Int32.ofInt a1)), (2, .int (Int32.ofInt a2)), (3, .ref ou)] := hl
  refine lv_aload_n hx hb (gx_d (gq_ok oL_same 0 (.aload_n 3) rfl) rfl rfl) rfl (lv_at hl 3 rfl) ?_
  refine lv_iconst (v := 0) hx hb (gx_d (gq_ok oL_same 1 (.iconst 0) rfl) rfl rfl) (by decide) ?_
  refine lv_aload_n hx hb (gx_d (gq_ok oL_same 2 (.aload_n 0) rfl) rfl rfl) rfl (lv_at hl 0 rfl) ?_
  refine lv_iload_n hx hb (gx_d (gq_ok oL_same 3 (.iload_n 1) rfl) rfl rfl) rfl (lv_at hl 1 rfl) ?_
  refine lv_iload_n hx hb (gx_d (gq_ok oL_same 4 (.iload_n 2) rfl) rfl rfl) rfl (lv_at hl 2 rfl) ?_
  refine gl_callV (own := RL) (As := [.inl a1, .inl a2]) (rest := [.int 0, .ref ou]) (ci := 12) K hx hb hml hpp hown hG hX hV rfl hS E hL hl.1 ⟨Nat.le_refl _, Nat.le_refl _⟩ ⟨Nat.le_of_eq (Nat.zero_add _), Nat.le_of_eq (Nat.zero_add _)⟩ (Nat.le_of_ble_eq_true rfl) (gp_W.comm (w1 := [gp_ou cy ou g]) hw) (gx_d (gq_ok oL_same 5 (.invokevirtual 60) rfl) rfl rfl) (fun Lₚ H1 locs1 hp hlen hw1 => ?_)
  have hw1 := hw1.comm
  show W _ _ _ _ _ _ _ _ _ _ _ _ _ _ _ (F0 m 8 ls [.int (Int32.ofInt z), .int 0, .ref ou])
  rcases hz with rfl | rfl
  · refine lv_if_eq (tgt := 15) hx hb (gx_d (gq_ok oL_same 8 (.ifCond .eq 7) rfl) rfl rfl) (by decide) (fun _ => ?_) (fun c9 => absurd rfl c9)
    refine lv_lconst (v := 0) hx hb (gx_d (gq_ok oL_same 15 (.lconst 0) rfl) rfl rfl) (by decide) ?_
    refine gp_last hx hb hG hw1 (gx_d (gq_ok oL_same 16 (.lastore) rfl) rfl rfl) (fun H2 locs2 hw2 => ?_)
    refine lv_goto (tgt := 24) hx hb (gx_d (gq_ok oL_same 17 (.goto 7) rfl) rfl rfl) (by decide) ?_
    refine lv_iconst (v := 0) hx hb (gx_d (gq_ok oL_same 24 (.iconst 0) rfl) rfl rfl) (by decide) ?_
    exact gl_iret hx hb hr hlocks hw2 hp hlen trivial (Nat.le_of_eq (Nat.zero_add _)) (Nat.le_of_eq (Nat.zero_add _)) (gx_d (gq_ok oL_same 25 (.ireturn) rfl) rfl rfl)
  · refine lv_if_eq (tgt := 15) hx hb (gx_d (gq_ok oL_same 8 (.ifCond .eq 7) rfl) rfl rfl) (by decide) (fun c9 => absurd c9 (by decide)) (fun _ => ?_)
    refine lv_lconst (v := 1) hx hb (gx_d (gq_ok oL_same 11 (.lconst 1) rfl) rfl rfl) (by decide) ?_
    refine lv_goto (tgt := 16) hx hb (gx_d (gq_ok oL_same 12 (.goto 4) rfl) rfl rfl) (by decide) ?_
    refine gp_last hx hb hG hw1 (gx_d (gq_ok oL_same 16 (.lastore) rfl) rfl rfl) (fun H2 locs2 hw2 => ?_)
    refine lv_goto (tgt := 24) hx hb (gx_d (gq_ok oL_same 17 (.goto 7) rfl) rfl rfl) (by decide) ?_
    refine lv_iconst (v := 0) hx hb (gx_d (gq_ok oL_same 24 (.iconst 0) rfl) rfl rfl) (by decide) ?_
    exact gl_iret hx hb hr hlocks hw2 hp hlen trivial (Nat.le_of_eq (Nat.zero_add _)) (Nat.le_of_eq (Nat.zero_add _)) (gx_d (gq_ok oL_same 25 (.ireturn) rfl) rfl rfl)
set_option maxHeartbeats 2000000 in
theorem w_same_x {l : Launch} {D : va_G} {cy : Nat → ClassId} {sa : Nat → Nat} {sv : Nat} {ws0 : List Cond} {tb : String → gz_T} (K : gl_K l D cy sa sv ws0 tb) (hV : gx_lV ws0 RL 60 (yX12_same, cX12_same, 4, (some .boolean)) 2) (hcl : Cond.classLink RL 19 "java/lang/IllegalArgumentException" ∈ ws0) {sh : gz_Sh} {h : gz_H} (a1 : Int)  (a2 : Int) (T : gk_T9 ws0 tb (yX12_same, cX12_same, 4, (some .boolean)) [.inr (.inr (some 0)), .inl a1, .inl a2] sh h px_IAE) (hS : sh[0]? = some (false, 12, 17)) (sz ou : Nat) (g : Nat → Int64) (L : List Nat) (hL : L.length = sh.length) : vx_Met l yL_same (Cond.codeWith yL_same cL_same 5 (some .int) [(0, 17, 20, 19)] :: ws0) (gz_rm 101 1 6) (gl_Pc D cy sa sv [.ref (gz_al sa L 0), .int (Int32.ofInt a1), .int (Int32.ofInt a2), .ref ou] sz (gp_ou cy ou g :: va_pl L (gz_f cy sa L sh h))) (gl_Q D cy sa (va_A (gp_ou cy ou g :: va_pl L (gz_f cy sa L sh h)) sz) ou L 1 sh h (fun _ => True)) gl_No 1 6 (va_A (gp_ou cy ou g :: va_pl L (gz_f cy sa L sh h)) sz) := by
  refine vx_ofWH (cc := cL_same) (maxL := 5) (ret := (some .int)) (by decide) rfl ?_
  intro p e s9 m args below meth c s₁ B hml hv
  obtain ⟨rfl, hsz, hG, hX, hP, hD0⟩ := hv
  have hx := B.exec
  have hb := B.bytes
  have hr := B.returns
  have hts := atoms_spec (ws := Cond.codeWith yL_same cL_same 5 (some .int) [(0, 17, 20, 19)] :: ws0) B.pre
  have hpp := fun (w : Cond) (h : w ∈ ws0) => hts w (List.mem_cons_of_mem _ h)
  have hown : s9.vm.findClass RL = some m.cls := findClass_of_methodNamed B.named
  have hlocks := B.notSynchronized
  have htab : tw_tab c [(0, 17, 20, 19)] := by
    obtain ⟨m', meth', c', h0', h1', h2', -, -, h5', -⟩ := Cond.codeWith_spec (hts (.codeWith yL_same cL_same 5 (some .int) [(0, 17, 20, 19)]) List.mem_cons_self)
    cases B.named.symm.trans h0'
    cases B.method.symm.trans h1'
    cases (Stand.of_body B).code.symm.trans h2'
    exact h5'
  have hw := gl_start (sv := sv) hsz hP hD0
  have hl := lv_entry ([.ref (gz_al sa L 0), .int (Int32.ofInt a1), .int (Int32.ofInt a2), .ref ou]) (n := 5) (Nat.le_of_ble_eq_true rfl)
  rw [lg_entry_eq]
  generalize (lg_sl ([.ref (gz_al sa L 0), .int (Int32.ofInt a1), .int (Int32.ofInt a2), .ref ou]) ++ List.replicate (5 - (lg_sl ([.ref (gz_al sa L 0), .int (Int32.ofInt a1), .int (Int32.ofInt a2), .ref ou])).length) Slot.unset).toArray = ls at hl ⊢
  have hl : lv_has ls 5 [(0, .ref (gz_al sa L 0)), (1, .int (Int32.ofInt a1)), (2, .int (Int32.ofInt a2)), (3, .ref ou)] := hl
  refine lv_aload_n hx hb (gx_d (gq_ok oL_same 0 (.aload_n 3) rfl) rfl rfl) rfl (lv_at hl 3 rfl) ?_
  refine lv_iconst (v := 0) hx hb (gx_d (gq_ok oL_same 1 (.iconst 0) rfl) rfl rfl) (by decide) ?_
  refine lv_aload_n hx hb (gx_d (gq_ok oL_same 2 (.aload_n 0) rfl) rfl rfl) rfl (lv_at hl 0 rfl) ?_
  refine lv_iload_n hx hb (gx_d (gq_ok oL_same 3 (.iload_n 1) rfl) rfl rfl) rfl (lv_at hl 1 rfl) ?_
  refine lv_iload_n hx hb (gx_d (gq_ok oL_same 4 (.iload_n 2) rfl) rfl rfl) rfl (lv_at hl 2 rfl) ?_
  refine gl_xcallV (own := RL) (As := [.inl a1, .inl a2]) (rest := [.int 0, .ref ou]) (ci := 12) K hx hb hml hpp hown hG hX hV rfl hS T hL hl.1 ⟨Nat.le_refl _, Nat.le_refl _⟩ ⟨Nat.le_of_eq (Nat.zero_add _), Nat.le_of_eq (Nat.zero_add _)⟩ (Nat.le_of_ble_eq_true rfl) (gp_W.comm (w1 := [gp_ou cy ou g]) hw) (gx_d (gq_ok oL_same 5 (.invokevirtual 60) rfl) rfl rfl) (fun Lₚ ce q9 H1 locs1 hp hlen hw1 hce hcv hcf => ?_)
  have hw1 := hw1.comm
  refine vx_catch1 (C := px_IAE) (name := "java/lang/IllegalArgumentException") htab hown (by decide) (by decide) (hpp _ hcl) (va_Nw.use rfl hX.1.2.1.1) hce hcv hcf ?_
  refine lv_astore (lv' := (4, .ref q9) :: [(0, .ref (gz_al sa L 0)), (1, .int (Int32.ofInt a1)), (2, .int (Int32.ofInt a2)), (3, .ref ou)]) hx hb (gx_d (gq_ok oL_same 20 (.astore 4) rfl) rfl rfl) hl (by decide) rfl (fun ls hl => ?_)
  refine lv_iconst (v := 1) hx hb (gx_d (gq_ok oL_same 22 (.iconst 1) rfl) rfl rfl) (by decide) ?_
  exact gl_iret hx hb hr hlocks hw1 hp hlen trivial (Nat.le_of_eq (Nat.zero_add _)) (Nat.le_of_eq (Nat.zero_add _)) (gx_d (gq_ok oL_same 23 (.ireturn) rfl) rfl rfl)
set_option maxHeartbeats 2000000 in
theorem w_say_n {l : Launch} {D : va_G} {cy : Nat → ClassId} {sa : Nat → Nat} {sv : Nat} {ws0 : List Cond} {tb : String → gz_T} (K : gl_K l D cy sa sv ws0 tb) (hV : gx_lV ws0 RL 64 (yX12_say, cX12_say, 5, (some .int)) 3) {sh : gz_Sh} {h : gz_H} (a1 : Int)  (a2 : Int)  (a3 : Int) {shₚ : gz_Sh} {hₚ : gz_H} {a s : Nat} (z : Int) (E : gz_Ev ws0 tb 100 (yX12_say, cX12_say, 5, (some .int)) [.inr (.inr (some 0)), .inl a1, .inl a2, .inl a3] sh h (some (.inl z)) shₚ hₚ a s) (hS : sh[0]? = some (false, 12, 17)) (sz ou : Nat) (g : Nat → Int64) (L : List Nat) (hL : L.length = sh.length) : vx_Met l yL_say (Cond.codeWith yL_say cL_say 6 (some .int) [(0, 12, 15, 19)] :: ws0) (gz_rm 101 a s) (gl_Pc D cy sa sv [.ref (gz_al sa L 0), .int (Int32.ofInt a1), .int (Int32.ofInt a2), .int (Int32.ofInt a3), .ref ou] sz (gp_ou cy ou g :: va_pl L (gz_f cy sa L sh h))) (gl_Q D cy sa (va_A (gp_ou cy ou g :: va_pl L (gz_f cy sa L sh h)) sz) ou L 0 shₚ hₚ (fun gₚ => gₚ 0 = (Int32.ofInt z).toInt64)) gl_No a s (va_A (gp_ou cy ou g :: va_pl L (gz_f cy sa L sh h)) sz) := by
  refine vx_ofWH (cc := cL_say) (maxL := 6) (ret := (some .int)) (by decide) rfl ?_
  intro p e s9 m args below meth c s₁ B hml hv
  obtain ⟨rfl, hsz, hG, hX, hP, hD0⟩ := hv
  have hx := B.exec
  have hb := B.bytes
  have hr := B.returns
  have hts := atoms_spec (ws := Cond.codeWith yL_say cL_say 6 (some .int) [(0, 12, 15, 19)] :: ws0) B.pre
  have hpp := fun (w : Cond) (h : w ∈ ws0) => hts w (List.mem_cons_of_mem _ h)
  have hown : s9.vm.findClass RL = some m.cls := findClass_of_methodNamed B.named
  have hlocks := B.notSynchronized
  have hw := gl_start (sv := sv) hsz hP hD0
  have hl := lv_entry ([.ref (gz_al sa L 0), .int (Int32.ofInt a1), .int (Int32.ofInt a2), .int (Int32.ofInt a3), .ref ou]) (n := 6) (Nat.le_of_ble_eq_true rfl)
  rw [lg_entry_eq]
  generalize (lg_sl ([.ref (gz_al sa L 0), .int (Int32.ofInt a1), .int (Int32.ofInt a2), .int (Int32.ofInt a3), .ref ou]) ++ List.replicate (6 - (lg_sl ([.ref (gz_al sa L 0), .int (Int32.ofInt a1), .int (Int32.ofInt a2), .int (Int32.ofInt a3), .ref ou])).length) Slot.unset).toArray = ls at hl ⊢
  have hl : lv_has ls 6 [(0, .ref (gz_al sa L 0)), (1, .int (Int32.ofInt a1)), (2, .int (Int32.ofInt a2)), (3, .int (Int32.ofInt a3)), (4, .ref ou)] := hl
  refine lv_aload hx hb (gx_d (gq_ok oL_say 0 (.aload 4) rfl) rfl rfl) (lv_at hl 4 rfl) ?_
  refine lv_iconst (v := 0) hx hb (gx_d (gq_ok oL_say 2 (.iconst 0) rfl) rfl rfl) (by decide) ?_
  refine lv_aload_n hx hb (gx_d (gq_ok oL_say 3 (.aload_n 0) rfl) rfl rfl) rfl (lv_at hl 0 rfl) ?_
  refine lv_iload_n hx hb (gx_d (gq_ok oL_say 4 (.iload_n 1) rfl) rfl rfl) rfl (lv_at hl 1 rfl) ?_
  refine lv_iload_n hx hb (gx_d (gq_ok oL_say 5 (.iload_n 2) rfl) rfl rfl) rfl (lv_at hl 2 rfl) ?_
  refine lv_iload_n hx hb (gx_d (gq_ok oL_say 6 (.iload_n 3) rfl) rfl rfl) rfl (lv_at hl 3 rfl) ?_
  refine gl_callV (own := RL) (As := [.inl a1, .inl a2, .inl a3]) (rest := [.int 0, .ref ou]) (ci := 12) K hx hb hml hpp hown hG hX hV rfl hS E hL hl.1 ⟨Nat.le_refl _, Nat.le_refl _⟩ ⟨Nat.le_of_eq (Nat.zero_add _), Nat.le_of_eq (Nat.zero_add _)⟩ (Nat.le_of_ble_eq_true rfl) (gp_W.comm (w1 := [gp_ou cy ou g]) hw) (gx_d (gq_ok oL_say 7 (.invokevirtual 64) rfl) rfl rfl) (fun Lₚ H1 locs1 hp hlen hw1 => ?_)
  have hw1 := hw1.comm
  show W _ _ _ _ _ _ _ _ _ _ _ _ _ _ _ (F0 m 10 ls [.int (Int32.ofInt z), .int 0, .ref ou])
  refine lv_i2l (v := (Int32.ofInt z).toInt64) hx hb (gx_d (gq_ok oL_say 10 (.i2l) rfl) rfl rfl) rfl ?_
  refine gp_last hx hb hG hw1 (gx_d (gq_ok oL_say 11 (.lastore) rfl) rfl rfl) (fun H2 locs2 hw2 => ?_)
  refine lv_goto (tgt := 19) hx hb (gx_d (gq_ok oL_say 12 (.goto 7) rfl) rfl rfl) (by decide) ?_
  refine lv_iconst (v := 0) hx hb (gx_d (gq_ok oL_say 19 (.iconst 0) rfl) rfl rfl) (by decide) ?_
  exact gl_iret hx hb hr hlocks hw2 hp hlen rfl (Nat.le_of_eq (Nat.zero_add _)) (Nat.le_of_eq (Nat.zero_add _)) (gx_d (gq_ok oL_say 20 (.ireturn) rfl) rfl rfl)
set_option maxHeartbeats 2000000 in
theorem w_say_x {l : Launch} {D : va_G} {cy : Nat → ClassId} {sa : Nat → Nat} {sv : Nat} {ws0 : List Cond} {tb : String → gz_T} (K : gl_K l D cy sa sv ws0 tb) (hV : gx_lV ws0 RL 64 (yX12_say, cX12_say, 5, (some .int)) 3) (hcl : Cond.classLink RL 19 "java/lang/IllegalArgumentException" ∈ ws0) {sh : gz_Sh} {h : gz_H} (a1 : Int)  (a2 : Int)  (a3 : Int) (T : gk_T9 ws0 tb (yX12_say, cX12_say, 5, (some .int)) [.inr (.inr (some 0)), .inl a1, .inl a2, .inl a3] sh h px_IAE) (hS : sh[0]? = some (false, 12, 17)) (sz ou : Nat) (g : Nat → Int64) (L : List Nat) (hL : L.length = sh.length) : vx_Met l yL_say (Cond.codeWith yL_say cL_say 6 (some .int) [(0, 12, 15, 19)] :: ws0) (gz_rm 101 1 6) (gl_Pc D cy sa sv [.ref (gz_al sa L 0), .int (Int32.ofInt a1), .int (Int32.ofInt a2), .int (Int32.ofInt a3), .ref ou] sz (gp_ou cy ou g :: va_pl L (gz_f cy sa L sh h))) (gl_Q D cy sa (va_A (gp_ou cy ou g :: va_pl L (gz_f cy sa L sh h)) sz) ou L 1 sh h (fun _ => True)) gl_No 1 6 (va_A (gp_ou cy ou g :: va_pl L (gz_f cy sa L sh h)) sz) := by
  refine vx_ofWH (cc := cL_say) (maxL := 6) (ret := (some .int)) (by decide) rfl ?_
  intro p e s9 m args below meth c s₁ B hml hv
  obtain ⟨rfl, hsz, hG, hX, hP, hD0⟩ := hv
  have hx := B.exec
  have hb := B.bytes
  have hr := B.returns
  have hts := atoms_spec (ws := Cond.codeWith yL_say cL_say 6 (some .int) [(0, 12, 15, 19)] :: ws0) B.pre
  have hpp := fun (w : Cond) (h : w ∈ ws0) => hts w (List.mem_cons_of_mem _ h)
  have hown : s9.vm.findClass RL = some m.cls := findClass_of_methodNamed B.named
  have hlocks := B.notSynchronized
  have htab : tw_tab c [(0, 12, 15, 19)] := by
    obtain ⟨m', meth', c', h0', h1', h2', -, -, h5', -⟩ := Cond.codeWith_spec (hts (.codeWith yL_say cL_say 6 (some .int) [(0, 12, 15, 19)]) List.mem_cons_self)
    cases B.named.symm.trans h0'
    cases B.method.symm.trans h1'
    cases (Stand.of_body B).code.symm.trans h2'
    exact h5'
  have hw := gl_start (sv := sv) hsz hP hD0
  have hl := lv_entry ([.ref (gz_al sa L 0), .int (Int32.ofInt a1), .int (Int32.ofInt a2), .int (Int32.ofInt a3), .ref ou]) (n := 6) (Nat.le_of_ble_eq_true rfl)
  rw [lg_entry_eq]
  generalize (lg_sl ([.ref (gz_al sa L 0), .int (Int32.ofInt a1), .int (Int32.ofInt a2), .int (Int32.ofInt a3), .ref ou]) ++ List.replicate (6 - (lg_sl ([.ref (gz_al sa L 0), .int (Int32.ofInt a1), .int (Int32.ofInt a2), .int (Int32.ofInt a3), .ref ou])).length) Slot.unset).toArray = ls at hl ⊢
  have hl : lv_has ls 6 [(0, .ref (gz_al sa L 0)), (1, .int (Int32.ofInt a1)), (2, .int (Int32.ofInt a2)), (3, .int (Int32.ofInt a3)), (4, .ref ou)] := hl
  refine lv_aload hx hb (gx_d (gq_ok oL_say 0 (.aload 4) rfl) rfl rfl) (lv_at hl 4 rfl) ?_
  refine lv_iconst (v := 0) hx hb (gx_d (gq_ok oL_say 2 (.iconst 0) rfl) rfl rfl) (by decide) ?_
  refine lv_aload_n hx hb (gx_d (gq_ok oL_say 3 (.aload_n 0) rfl) rfl rfl) rfl (lv_at hl 0 rfl) ?_
  refine lv_iload_n hx hb (gx_d (gq_ok oL_say 4 (.iload_n 1) rfl) rfl rfl) rfl (lv_at hl 1 rfl) ?_
  refine lv_iload_n hx hb (gx_d (gq_ok oL_say 5 (.iload_n 2) rfl) rfl rfl) rfl (lv_at hl 2 rfl) ?_
  refine lv_iload_n hx hb (gx_d (gq_ok oL_say 6 (.iload_n 3) rfl) rfl rfl) rfl (lv_at hl 3 rfl) ?_
  refine gl_xcallV (own := RL) (As := [.inl a1, .inl a2, .inl a3]) (rest := [.int 0, .ref ou]) (ci := 12) K hx hb hml hpp hown hG hX hV rfl hS T hL hl.1 ⟨Nat.le_refl _, Nat.le_refl _⟩ ⟨Nat.le_of_eq (Nat.zero_add _), Nat.le_of_eq (Nat.zero_add _)⟩ (Nat.le_of_ble_eq_true rfl) (gp_W.comm (w1 := [gp_ou cy ou g]) hw) (gx_d (gq_ok oL_say 7 (.invokevirtual 64) rfl) rfl rfl) (fun Lₚ ce q9 H1 locs1 hp hlen hw1 hce hcv hcf => ?_)
  have hw1 := hw1.comm
  refine vx_catch1 (C := px_IAE) (name := "java/lang/IllegalArgumentException") htab hown (by decide) (by decide) (hpp _ hcl) (va_Nw.use rfl hX.1.2.1.1) hce hcv hcf ?_
  refine lv_astore (lv' := (5, .ref q9) :: [(0, .ref (gz_al sa L 0)), (1, .int (Int32.ofInt a1)), (2, .int (Int32.ofInt a2)), (3, .int (Int32.ofInt a3)), (4, .ref ou)]) hx hb (gx_d (gq_ok oL_say 15 (.astore 5) rfl) rfl rfl) hl (by decide) rfl (fun ls hl => ?_)
  refine lv_iconst (v := 1) hx hb (gx_d (gq_ok oL_say 17 (.iconst 1) rfl) rfl rfl) (by decide) ?_
  exact gl_iret hx hb hr hlocks hw1 hp hlen trivial (Nat.le_of_eq (Nat.zero_add _)) (Nat.le_of_eq (Nat.zero_add _)) (gx_d (gq_ok oL_say 18 (.ireturn) rfl) rfl rfl)
set_option maxHeartbeats 2000000 in
theorem w_mean_n {l : Launch} {D : va_G} {cy : Nat → ClassId} {sa : Nat → Nat} {sv : Nat} {ws0 : List Cond} {tb : String → gz_T} (K : gl_K l D cy sa sv ws0 tb) (hV : gx_lV ws0 RL 67 (yX12_mean, cX12_mean, 3, (some .int)) 1) {sh : gz_Sh} {h : gz_H} (a1 : Int) {shₚ : gz_Sh} {hₚ : gz_H} {a s : Nat} (z : Int) (E : gz_Ev ws0 tb 100 (yX12_mean, cX12_mean, 3, (some .int)) [.inr (.inr (some 0)), .inl a1] sh h (some (.inl z)) shₚ hₚ a s) (hS : sh[0]? = some (false, 12, 17)) (sz ou : Nat) (g : Nat → Int64) (L : List Nat) (hL : L.length = sh.length) : vx_Met l yL_mean (Cond.codeWith yL_mean cL_mean 4 (some .int) [(0, 9, 12, 19)] :: ws0) (gz_rm 101 a s) (gl_Pc D cy sa sv [.ref (gz_al sa L 0), .int (Int32.ofInt a1), .ref ou] sz (gp_ou cy ou g :: va_pl L (gz_f cy sa L sh h))) (gl_Q D cy sa (va_A (gp_ou cy ou g :: va_pl L (gz_f cy sa L sh h)) sz) ou L 0 shₚ hₚ (fun gₚ => gₚ 0 = (Int32.ofInt z).toInt64)) gl_No a s (va_A (gp_ou cy ou g :: va_pl L (gz_f cy sa L sh h)) sz) := by
  refine vx_ofWH (cc := cL_mean) (maxL := 4) (ret := (some .int)) (by decide) rfl ?_
  intro p e s9 m args below meth c s₁ B hml hv
  obtain ⟨rfl, hsz, hG, hX, hP, hD0⟩ := hv
  have hx := B.exec
  have hb := B.bytes
  have hr := B.returns
  have hts := atoms_spec (ws := Cond.codeWith yL_mean cL_mean 4 (some .int) [(0, 9, 12, 19)] :: ws0) B.pre
  have hpp := fun (w : Cond) (h : w ∈ ws0) => hts w (List.mem_cons_of_mem _ h)
  have hown : s9.vm.findClass RL = some m.cls := findClass_of_methodNamed B.named
  have hlocks := B.notSynchronized
  have hw := gl_start (sv := sv) hsz hP hD0
  have hl := lv_entry ([.ref (gz_al sa L 0), .int (Int32.ofInt a1), .ref ou]) (n := 4) (Nat.le_of_ble_eq_true rfl)
  rw [lg_entry_eq]
  generalize (lg_sl ([.ref (gz_al sa L 0), .int (Int32.ofInt a1), .ref ou]) ++ List.replicate (4 - (lg_sl ([.ref (gz_al sa L 0), .int (Int32.ofInt a1), .ref ou])).length) Slot.unset).toArray = ls at hl ⊢
  have hl : lv_has ls 4 [(0, .ref (gz_al sa L 0)), (1, .int (Int32.ofInt a1)), (2, .ref ou)] := hl
  refine lv_aload_n hx hb (gx_d (gq_ok oL_mean 0 (.aload_n 2) rfl) rfl rfl) rfl (lv_at hl 2 rfl) ?_
  refine lv_iconst (v := 0) hx hb (gx_d (gq_ok oL_mean 1 (.iconst 0) rfl) rfl rfl) (by decide) ?_
  refine lv_aload_n hx hb (gx_d (gq_ok oL_mean 2 (.aload_n 0) rfl) rfl rfl) rfl (lv_at hl 0 rfl) ?_
  refine lv_iload_n hx hb (gx_d (gq_ok oL_mean 3 (.iload_n 1) rfl) rfl rfl) rfl (lv_at hl 1 rfl) ?_
  refine gl_callV (own := RL) (As := [.inl a1]) (rest := [.int 0, .ref ou]) (ci := 12) K hx hb hml hpp hown hG hX hV rfl hS E hL hl.1 ⟨Nat.le_refl _, Nat.le_refl _⟩ ⟨Nat.le_of_eq (Nat.zero_add _), Nat.le_of_eq (Nat.zero_add _)⟩ (Nat.le_of_ble_eq_true rfl) (gp_W.comm (w1 := [gp_ou cy ou g]) hw) (gx_d (gq_ok oL_mean 4 (.invokevirtual 67) rfl) rfl rfl) (fun Lₚ H1 locs1 hp hlen hw1 => ?_)
  have hw1 := hw1.comm
  show W _ _ _ _ _ _ _ _ _ _ _ _ _ _ _ (F0 m 7 ls [.int (Int32.ofInt z), .int 0, .ref ou])
  refine lv_i2l (v := (Int32.ofInt z).toInt64) hx hb (gx_d (gq_ok oL_mean 7 (.i2l) rfl) rfl rfl) rfl ?_
  refine gp_last hx hb hG hw1 (gx_d (gq_ok oL_mean 8 (.lastore) rfl) rfl rfl) (fun H2 locs2 hw2 => ?_)
  refine lv_goto (tgt := 15) hx hb (gx_d (gq_ok oL_mean 9 (.goto 6) rfl) rfl rfl) (by decide) ?_
  refine lv_iconst (v := 0) hx hb (gx_d (gq_ok oL_mean 15 (.iconst 0) rfl) rfl rfl) (by decide) ?_
  exact gl_iret hx hb hr hlocks hw2 hp hlen rfl (Nat.le_of_eq (Nat.zero_add _)) (Nat.le_of_eq (Nat.zero_add _)) (gx_d (gq_ok oL_mean 16 (.ireturn) rfl) rfl rfl)
set_option maxHeartbeats 2000000 in
theorem w_mean_x {l : Launch} {D : va_G} {cy : Nat → ClassId} {sa : Nat → Nat} {sv : Nat} {ws0 : List Cond} {tb : String → gz_T} (K : gl_K l D cy sa sv ws0 tb) (hV : gx_lV ws0 RL 67 (yX12_mean, cX12_mean, 3, (some .int)) 1) (hcl : Cond.classLink RL 19 "java/lang/IllegalArgumentException" ∈ ws0) {sh : gz_Sh} {h : gz_H} (a1 : Int) (T : gk_T9 ws0 tb (yX12_mean, cX12_mean, 3, (some .int)) [.inr (.inr (some 0)), .inl a1] sh h px_IAE) (hS : sh[0]? = some (false, 12, 17)) (sz ou : Nat) (g : Nat → Int64) (L : List Nat) (hL : L.length = sh.length) : vx_Met l yL_mean (Cond.codeWith yL_mean cL_mean 4 (some .int) [(0, 9, 12, 19)] :: ws0) (gz_rm 101 1 6) (gl_Pc D cy sa sv [.ref (gz_al sa L 0), .int (Int32.ofInt a1), .ref ou] sz (gp_ou cy ou g :: va_pl L (gz_f cy sa L sh h))) (gl_Q D cy sa (va_A (gp_ou cy ou g :: va_pl L (gz_f cy sa L sh h)) sz) ou L 1 sh h (fun _ => True)) gl_No 1 6 (va_A (gp_ou cy ou g :: va_pl L (gz_f cy sa L sh h)) sz) := by
  refine vx_ofWH (cc := cL_mean) (maxL := 4) (ret := (some .int)) (by decide) rfl ?_
  intro p e s9 m args below meth c s₁ B hml hv
  obtain ⟨rfl, hsz, hG, hX, hP, hD0⟩ := hv
  have hx := B.exec
  have hb := B.bytes
  have hr := B.returns
  have hts := atoms_spec (ws := Cond.codeWith yL_mean cL_mean 4 (some .int) [(0, 9, 12, 19)] :: ws0) B.pre
  have hpp := fun (w : Cond) (h : w ∈ ws0) => hts w (List.mem_cons_of_mem _ h)
  have hown : s9.vm.findClass RL = some m.cls := findClass_of_methodNamed B.named
  have hlocks := B.notSynchronized
  have htab : tw_tab c [(0, 9, 12, 19)] := by
    obtain ⟨m', meth', c', h0', h1', h2', -, -, h5', -⟩ := Cond.codeWith_spec (hts (.codeWith yL_mean cL_mean 4 (some .int) [(0, 9, 12, 19)]) List.mem_cons_self)
    cases B.named.symm.trans h0'
    cases B.method.symm.trans h1'
    cases (Stand.of_body B).code.symm.trans h2'
    exact h5'
  have hw := gl_start (sv := sv) hsz hP hD0
  have hl := lv_entry ([.ref (gz_al sa L 0), .int (Int32.ofInt a1), .ref ou]) (n := 4) (Nat.le_of_ble_eq_true rfl)
  rw [lg_entry_eq]
  generalize (lg_sl ([.ref (gz_al sa L 0), .int (Int32.ofInt a1), .ref ou]) ++ List.replicate (4 - (lg_sl ([.ref (gz_al sa L 0), .int (Int32.ofInt a1), .ref ou])).length) Slot.unset).toArray = ls at hl ⊢
  have hl : lv_has ls 4 [(0, .ref (gz_al sa L 0)), (1, .int (Int32.ofInt a1)), (2, .ref ou)] := hl
  refine lv_aload_n hx hb (gx_d (gq_ok oL_mean 0 (.aload_n 2) rfl) rfl rfl) rfl (lv_at hl 2 rfl) ?_
  refine lv_iconst (v := 0) hx hb (gx_d (gq_ok oL_mean 1 (.iconst 0) rfl) rfl rfl) (by decide) ?_
  refine lv_aload_n hx hb (gx_d (gq_ok oL_mean 2 (.aload_n 0) rfl) rfl rfl) rfl (lv_at hl 0 rfl) ?_
  refine lv_iload_n hx hb (gx_d (gq_ok oL_mean 3 (.iload_n 1) rfl) rfl rfl) rfl (lv_at hl 1 rfl) ?_
  refine gl_xcallV (own := RL) (As := [.inl a1]) (rest := [.int 0, .ref ou]) (ci := 12) K hx hb hml hpp hown hG hX hV rfl hS T hL hl.1 ⟨Nat.le_refl _, Nat.le_refl _⟩ ⟨Nat.le_of_eq (Nat.zero_add _), Nat.le_of_eq (Nat.zero_add _)⟩ (Nat.le_of_ble_eq_true rfl) (gp_W.comm (w1 := [gp_ou cy ou g]) hw) (gx_d (gq_ok oL_mean 4 (.invokevirtual 67) rfl) rfl rfl) (fun Lₚ ce q9 H1 locs1 hp hlen hw1 hce hcv hcf => ?_)
  have hw1 := hw1.comm
  refine vx_catch1 (C := px_IAE) (name := "java/lang/IllegalArgumentException") htab hown (by decide) (by decide) (hpp _ hcl) (va_Nw.use rfl hX.1.2.1.1) hce hcv hcf ?_
  refine lv_astore_n (lv' := (3, .ref q9) :: [(0, .ref (gz_al sa L 0)), (1, .int (Int32.ofInt a1)), (2, .ref ou)]) hx hb (gx_d (gq_ok oL_mean 12 (.astore_n 3) rfl) rfl rfl) rfl hl (by decide) rfl (fun ls hl => ?_)
  refine lv_iconst (v := 1) hx hb (gx_d (gq_ok oL_mean 13 (.iconst 1) rfl) rfl rfl) (by decide) ?_
  exact gl_iret hx hb hr hlocks hw1 hp hlen trivial (Nat.le_of_eq (Nat.zero_add _)) (Nat.le_of_eq (Nat.zero_add _)) (gx_d (gq_ok oL_mean 14 (.ireturn) rfl) rfl rfl)
set_option maxHeartbeats 2000000 in
theorem w_truth_n {l : Launch} {D : va_G} {cy : Nat → ClassId} {sa : Nat → Nat} {sv : Nat} {ws0 : List Cond} {tb : String → gz_T} (K : gl_K l D cy sa sv ws0 tb) (hV : gx_lV ws0 RL 70 (yX12_truth, cX12_truth, 3, (some .int)) 1) {sh : gz_Sh} {h : gz_H} (a1 : Int) {shₚ : gz_Sh} {hₚ : gz_H} {a s : Nat} (z : Int) (E : gz_Ev ws0 tb 100 (yX12_truth, cX12_truth, 3, (some .int)) [.inr (.inr (some 0)), .inl a1] sh h (some (.inl z)) shₚ hₚ a s) (hS : sh[0]? = some (false, 12, 17)) (sz ou : Nat) (g : Nat → Int64) (L : List Nat) (hL : L.length = sh.length) : vx_Met l yL_truth (Cond.codeWith yL_truth cL_truth 4 (some .int) [(0, 9, 12, 19)] :: ws0) (gz_rm 101 a s) (gl_Pc D cy sa sv [.ref (gz_al sa L 0), .int (Int32.ofInt a1), .ref ou] sz (gp_ou cy ou g :: va_pl L (gz_f cy sa L sh h))) (gl_Q D cy sa (va_A (gp_ou cy ou g :: va_pl L (gz_f cy sa L sh h)) sz) ou L 0 shₚ hₚ (fun gₚ => gₚ 0 = (Int32.ofInt z).toInt64)) gl_No a s (va_A (gp_ou cy ou g :: va_pl L (gz_f cy sa L sh h)) sz) := by
  refine vx_ofWH (cc := cL_truth) (maxL := 4) (ret := (some .int)) (by decide) rfl ?_
  intro p e s9 m args below meth c s₁ B hml hv
  obtain ⟨rfl, hsz, hG, hX, hP, hD0⟩ := hv
  have hx := B.exec
  have hb := B.bytes
  have hr := B.returns
  have hts := atoms_spec (ws := Cond.codeWith yL_truth cL_truth 4 (some .int) [(0, 9, 12, 19)] :: ws0) B.pre
  have hpp := fun (w : Cond) (h : w ∈ ws0) => hts w (List.mem_cons_of_mem _ h)
  have hown : s9.vm.findClass RL = some m.cls := findClass_of_methodNamed B.named
  have hlocks := B.notSynchronized
  have hw := gl_start (sv := sv) hsz hP hD0
  have hl := lv_entry ([.ref (gz_al sa L 0), .int (Int32.ofInt a1), .ref ou]) (n := 4) (Nat.le_of_ble_eq_true rfl)
  rw [lg_entry_eq]
  generalize (lg_sl ([.ref (gz_al sa L 0), .int (Int32.ofInt a1), .ref ou]) ++ List.replicate (4 - (lg_sl ([.ref (gz_al sa L 0), .int (Int32.ofInt a1), .ref ou])).length) Slot.unset).toArray = ls at hl ⊢
  have hl : lv_has ls 4 [(0, .ref (gz_al sa L 0)), (1, .int (Int32.ofInt a1)), (2, .ref ou)] := hl
  refine lv_aload_n hx hb (gx_d (gq_ok oL_truth 0 (.aload_n 2) rfl) rfl rfl) rfl (lv_at hl 2 rfl) ?_
  refine lv_iconst (v := 0) hx hb (gx_d (gq_ok oL_truth 1 (.iconst 0) rfl) rfl rfl) (by decide) ?_
  refine lv_aload_n hx hb (gx_d (gq_ok oL_truth 2 (.aload_n 0) rfl) rfl rfl) rfl (lv_at hl 0 rfl) ?_
  refine lv_iload_n hx hb (gx_d (gq_ok oL_truth 3 (.iload_n 1) rfl) rfl rfl) rfl (lv_at hl 1 rfl) ?_
  refine gl_callV (own := RL) (As := [.inl a1]) (rest := [.int 0, .ref ou]) (ci := 12) K hx hb hml hpp hown hG hX hV rfl hS E hL hl.1 ⟨Nat.le_refl _, Nat.le_refl _⟩ ⟨Nat.le_of_eq (Nat.zero_add _), Nat.le_of_eq (Nat.zero_add _)⟩ (Nat.le_of_ble_eq_true rfl) (gp_W.comm (w1 := [gp_ou cy ou g]) hw) (gx_d (gq_ok oL_truth 4 (.invokevirtual 70) rfl) rfl rfl) (fun Lₚ H1 locs1 hp hlen hw1 => ?_)
  have hw1 := hw1.comm
  show W _ _ _ _ _ _ _ _ _ _ _ _ _ _ _ (F0 m 7 ls [.int (Int32.ofInt z), .int 0, .ref ou])
  refine lv_i2l (v := (Int32.ofInt z).toInt64) hx hb (gx_d (gq_ok oL_truth 7 (.i2l) rfl) rfl rfl) rfl ?_
  refine gp_last hx hb hG hw1 (gx_d (gq_ok oL_truth 8 (.lastore) rfl) rfl rfl) (fun H2 locs2 hw2 => ?_)
  refine lv_goto (tgt := 15) hx hb (gx_d (gq_ok oL_truth 9 (.goto 6) rfl) rfl rfl) (by decide) ?_
  refine lv_iconst (v := 0) hx hb (gx_d (gq_ok oL_truth 15 (.iconst 0) rfl) rfl rfl) (by decide) ?_
  exact gl_iret hx hb hr hlocks hw2 hp hlen rfl (Nat.le_of_eq (Nat.zero_add _)) (Nat.le_of_eq (Nat.zero_add _)) (gx_d (gq_ok oL_truth 16 (.ireturn) rfl) rfl rfl)
set_option maxHeartbeats 2000000 in
theorem w_truth_x {l : Launch} {D : va_G} {cy : Nat → ClassId} {sa : Nat → Nat} {sv : Nat} {ws0 : List Cond} {tb : String → gz_T} (K : gl_K l D cy sa sv ws0 tb) (hV : gx_lV ws0 RL 70 (yX12_truth, cX12_truth, 3, (some .int)) 1) (hcl : Cond.classLink RL 19 "java/lang/IllegalArgumentException" ∈ ws0) {sh : gz_Sh} {h : gz_H} (a1 : Int) (T : gk_T9 ws0 tb (yX12_truth, cX12_truth, 3, (some .int)) [.inr (.inr (some 0)), .inl a1] sh h px_IAE) (hS : sh[0]? = some (false, 12, 17)) (sz ou : Nat) (g : Nat → Int64) (L : List Nat) (hL : L.length = sh.length) : vx_Met l yL_truth (Cond.codeWith yL_truth cL_truth 4 (some .int) [(0, 9, 12, 19)] :: ws0) (gz_rm 101 1 6) (gl_Pc D cy sa sv [.ref (gz_al sa L 0), .int (Int32.ofInt a1), .ref ou] sz (gp_ou cy ou g :: va_pl L (gz_f cy sa L sh h))) (gl_Q D cy sa (va_A (gp_ou cy ou g :: va_pl L (gz_f cy sa L sh h)) sz) ou L 1 sh h (fun _ => True)) gl_No 1 6 (va_A (gp_ou cy ou g :: va_pl L (gz_f cy sa L sh h)) sz) := by
  refine vx_ofWH (cc := cL_truth) (maxL := 4) (ret := (some .int)) (by decide) rfl ?_
  intro p e s9 m args below meth c s₁ B hml hv
  obtain ⟨rfl, hsz, hG, hX, hP, hD0⟩ := hv
  have hx := B.exec
  have hb := B.bytes
  have hr := B.returns
  have hts := atoms_spec (ws := Cond.codeWith yL_truth cL_truth 4 (some .int) [(0, 9, 12, 19)] :: ws0) B.pre
  have hpp := fun (w : Cond) (h : w ∈ ws0) => hts w (List.mem_cons_of_mem _ h)
  have hown : s9.vm.findClass RL = some m.cls := findClass_of_methodNamed B.named
  have hlocks := B.notSynchronized
  have htab : tw_tab c [(0, 9, 12, 19)] := by
    obtain ⟨m', meth', c', h0', h1', h2', -, -, h5', -⟩ := Cond.codeWith_spec (hts (.codeWith yL_truth cL_truth 4 (some .int) [(0, 9, 12, 19)]) List.mem_cons_self)
    cases B.named.symm.trans h0'
    cases B.method.symm.trans h1'
    cases (Stand.of_body B).code.symm.trans h2'
    exact h5'
  have hw := gl_start (sv := sv) hsz hP hD0
  have hl := lv_entry ([.ref (gz_al sa L 0), .int (Int32.ofInt a1), .ref ou]) (n := 4) (Nat.le_of_ble_eq_true rfl)
  rw [lg_entry_eq]
  generalize (lg_sl ([.ref (gz_al sa L 0), .int (Int32.ofInt a1), .ref ou]) ++ List.replicate (4 - (lg_sl ([.ref (gz_al sa L 0), .int (Int32.ofInt a1), .ref ou])).length) Slot.unset).toArray = ls at hl ⊢
  have hl : lv_has ls 4 [(0, .ref (gz_al sa L 0)), (1, .int (Int32.ofInt a1)), (2, .ref ou)] := hl
  refine lv_aload_n hx hb (gx_d (gq_ok oL_truth 0 (.aload_n 2) rfl) rfl rfl) rfl (lv_at hl 2 rfl) ?_
  refine lv_iconst (v := 0) hx hb (gx_d (gq_ok oL_truth 1 (.iconst 0) rfl) rfl rfl) (by decide) ?_
  refine lv_aload_n hx hb (gx_d (gq_ok oL_truth 2 (.aload_n 0) rfl) rfl rfl) rfl (lv_at hl 0 rfl) ?_
  refine lv_iload_n hx hb (gx_d (gq_ok oL_truth 3 (.iload_n 1) rfl) rfl rfl) rfl (lv_at hl 1 rfl) ?_
  refine gl_xcallV (own := RL) (As := [.inl a1]) (rest := [.int 0, .ref ou]) (ci := 12) K hx hb hml hpp hown hG hX hV rfl hS T hL hl.1 ⟨Nat.le_refl _, Nat.le_refl _⟩ ⟨Nat.le_of_eq (Nat.zero_add _), Nat.le_of_eq (Nat.zero_add _)⟩ (Nat.le_of_ble_eq_true rfl) (gp_W.comm (w1 := [gp_ou cy ou g]) hw) (gx_d (gq_ok oL_truth 4 (.invokevirtual 70) rfl) rfl rfl) (fun Lₚ ce q9 H1 locs1 hp hlen hw1 hce hcv hcf => ?_)
  have hw1 := hw1.comm
  refine vx_catch1 (C := px_IAE) (name := "java/lang/IllegalArgumentException") htab hown (by decide) (by decide) (hpp _ hcl) (va_Nw.use rfl hX.1.2.1.1) hce hcv hcf ?_
  refine lv_astore_n (lv' := (3, .ref q9) :: [(0, .ref (gz_al sa L 0)), (1, .int (Int32.ofInt a1)), (2, .ref ou)]) hx hb (gx_d (gq_ok oL_truth 12 (.astore_n 3) rfl) rfl rfl) rfl hl (by decide) rfl (fun ls hl => ?_)
  refine lv_iconst (v := 1) hx hb (gx_d (gq_ok oL_truth 13 (.iconst 1) rfl) rfl rfl) (by decide) ?_
  exact gl_iret hx hb hr hlocks hw1 hp hlen trivial (Nat.le_of_eq (Nat.zero_add _)) (Nat.le_of_eq (Nat.zero_add _)) (gx_d (gq_ok oL_truth 14 (.ireturn) rfl) rfl rfl)
set_option maxHeartbeats 2000000 in
theorem w_swap_n {l : Launch} {D : va_G} {cy : Nat → ClassId} {sa : Nat → Nat} {sv : Nat} {ws0 : List Cond} {tb : String → gz_T} (K : gl_K l D cy sa sv ws0 tb) (hV : gx_lV ws0 RL 73 (yX12_swap, cX12_swap, 9, (some .int)) 3) {sh : gz_Sh} {h : gz_H} (a1 : Int)  (a2 : Int)  (a3 : Int) {shₚ : gz_Sh} {hₚ : gz_H} {a s : Nat} (z : Int) (E : gz_Ev ws0 tb 100 (yX12_swap, cX12_swap, 9, (some .int)) [.inr (.inr (some 0)), .inl a1, .inl a2, .inl a3] sh h (some (.inl z)) shₚ hₚ a s) (hS : sh[0]? = some (false, 12, 17)) (sz ou : Nat) (g : Nat → Int64) (L : List Nat) (hL : L.length = sh.length) : vx_Met l yL_swap (Cond.codeWith yL_swap cL_swap 6 (some .int) [(0, 12, 15, 19)] :: ws0) (gz_rm 101 a s) (gl_Pc D cy sa sv [.ref (gz_al sa L 0), .int (Int32.ofInt a1), .int (Int32.ofInt a2), .int (Int32.ofInt a3), .ref ou] sz (gp_ou cy ou g :: va_pl L (gz_f cy sa L sh h))) (gl_Q D cy sa (va_A (gp_ou cy ou g :: va_pl L (gz_f cy sa L sh h)) sz) ou L 0 shₚ hₚ (fun gₚ => gₚ 0 = (Int32.ofInt z).toInt64)) gl_No a s (va_A (gp_ou cy ou g :: va_pl L (gz_f cy sa L sh h)) sz) := by
  refine vx_ofWH (cc := cL_swap) (maxL := 6) (ret := (some .int)) (by decide) rfl ?_
  intro p e s9 m args below meth c s₁ B hml hv
  obtain ⟨rfl, hsz, hG, hX, hP, hD0⟩ := hv
  have hx := B.exec
  have hb := B.bytes
  have hr := B.returns
  have hts := atoms_spec (ws := Cond.codeWith yL_swap cL_swap 6 (some .int) [(0, 12, 15, 19)] :: ws0) B.pre
  have hpp := fun (w : Cond) (h : w ∈ ws0) => hts w (List.mem_cons_of_mem _ h)
  have hown : s9.vm.findClass RL = some m.cls := findClass_of_methodNamed B.named
  have hlocks := B.notSynchronized
  have hw := gl_start (sv := sv) hsz hP hD0
  have hl := lv_entry ([.ref (gz_al sa L 0), .int (Int32.ofInt a1), .int (Int32.ofInt a2), .int (Int32.ofInt a3), .ref ou]) (n := 6) (Nat.le_of_ble_eq_true rfl)
  rw [lg_entry_eq]
  generalize (lg_sl ([.ref (gz_al sa L 0), .int (Int32.ofInt a1), .int (Int32.ofInt a2), .int (Int32.ofInt a3), .ref ou]) ++ List.replicate (6 - (lg_sl ([.ref (gz_al sa L 0), .int (Int32.ofInt a1), .int (Int32.ofInt a2), .int (Int32.ofInt a3), .ref ou])).length) Slot.unset).toArray = ls at hl ⊢
  have hl : lv_has ls 6 [(0, .ref (gz_al sa L 0)), (1, .int (Int32.ofInt a1)), (2, .int (Int32.ofInt a2)), (3, .int (Int32.ofInt a3)), (4, .ref ou)] := hl
  refine lv_aload hx hb (gx_d (gq_ok oL_swap 0 (.aload 4) rfl) rfl rfl) (lv_at hl 4 rfl) ?_
  refine lv_iconst (v := 0) hx hb (gx_d (gq_ok oL_swap 2 (.iconst 0) rfl) rfl rfl) (by decide) ?_
  refine lv_aload_n hx hb (gx_d (gq_ok oL_swap 3 (.aload_n 0) rfl) rfl rfl) rfl (lv_at hl 0 rfl) ?_
  refine lv_iload_n hx hb (gx_d (gq_ok oL_swap 4 (.iload_n 1) rfl) rfl rfl) rfl (lv_at hl 1 rfl) ?_
  refine lv_iload_n hx hb (gx_d (gq_ok oL_swap 5 (.iload_n 2) rfl) rfl rfl) rfl (lv_at hl 2 rfl) ?_
  refine lv_iload_n hx hb (gx_d (gq_ok oL_swap 6 (.iload_n 3) rfl) rfl rfl) rfl (lv_at hl 3 rfl) ?_
  refine gl_callV (own := RL) (As := [.inl a1, .inl a2, .inl a3]) (rest := [.int 0, .ref ou]) (ci := 12) K hx hb hml hpp hown hG hX hV rfl hS E hL hl.1 ⟨Nat.le_refl _, Nat.le_refl _⟩ ⟨Nat.le_of_eq (Nat.zero_add _), Nat.le_of_eq (Nat.zero_add _)⟩ (Nat.le_of_ble_eq_true rfl) (gp_W.comm (w1 := [gp_ou cy ou g]) hw) (gx_d (gq_ok oL_swap 7 (.invokevirtual 73) rfl) rfl rfl) (fun Lₚ H1 locs1 hp hlen hw1 => ?_)
  have hw1 := hw1.comm
  show W _ _ _ _ _ _ _ _ _ _ _ _ _ _ _ (F0 m 10 ls [.int (Int32.ofInt z), .int 0, .ref ou])
  refine lv_i2l (v := (Int32.ofInt z).toInt64) hx hb (gx_d (gq_ok oL_swap 10 (.i2l) rfl) rfl rfl) rfl ?_
  refine gp_last hx hb hG hw1 (gx_d (gq_ok oL_swap 11 (.lastore) rfl) rfl rfl) (fun H2 locs2 hw2 => ?_)
  refine lv_goto (tgt := 19) hx hb (gx_d (gq_ok oL_swap 12 (.goto 7) rfl) rfl rfl) (by decide) ?_
  refine lv_iconst (v := 0) hx hb (gx_d (gq_ok oL_swap 19 (.iconst 0) rfl) rfl rfl) (by decide) ?_
  exact gl_iret hx hb hr hlocks hw2 hp hlen rfl (Nat.le_of_eq (Nat.zero_add _)) (Nat.le_of_eq (Nat.zero_add _)) (gx_d (gq_ok oL_swap 20 (.ireturn) rfl) rfl rfl)
set_option maxHeartbeats 2000000 in
theorem w_swap_x {l : Launch} {D : va_G} {cy : Nat → ClassId} {sa : Nat → Nat} {sv : Nat} {ws0 : List Cond} {tb : String → gz_T} (K : gl_K l D cy sa sv ws0 tb) (hV : gx_lV ws0 RL 73 (yX12_swap, cX12_swap, 9, (some .int)) 3) (hcl : Cond.classLink RL 19 "java/lang/IllegalArgumentException" ∈ ws0) {sh : gz_Sh} {h : gz_H} (a1 : Int)  (a2 : Int)  (a3 : Int) (T : gk_T9 ws0 tb (yX12_swap, cX12_swap, 9, (some .int)) [.inr (.inr (some 0)), .inl a1, .inl a2, .inl a3] sh h px_IAE) (hS : sh[0]? = some (false, 12, 17)) (sz ou : Nat) (g : Nat → Int64) (L : List Nat) (hL : L.length = sh.length) : vx_Met l yL_swap (Cond.codeWith yL_swap cL_swap 6 (some .int) [(0, 12, 15, 19)] :: ws0) (gz_rm 101 1 6) (gl_Pc D cy sa sv [.ref (gz_al sa L 0), .int (Int32.ofInt a1), .int (Int32.ofInt a2), .int (Int32.ofInt a3), .ref ou] sz (gp_ou cy ou g :: va_pl L (gz_f cy sa L sh h))) (gl_Q D cy sa (va_A (gp_ou cy ou g :: va_pl L (gz_f cy sa L sh h)) sz) ou L 1 sh h (fun _ => True)) gl_No 1 6 (va_A (gp_ou cy ou g :: va_pl L (gz_f cy sa L sh h)) sz) := by
  refine vx_ofWH (cc := cL_swap) (maxL := 6) (ret := (some .int)) (by decide) rfl ?_
  intro p e s9 m args below meth c s₁ B hml hv
  obtain ⟨rfl, hsz, hG, hX, hP, hD0⟩ := hv
  have hx := B.exec
  have hb := B.bytes
  have hr := B.returns
  have hts := atoms_spec (ws := Cond.codeWith yL_swap cL_swap 6 (some .int) [(0, 12, 15, 19)] :: ws0) B.pre
  have hpp := fun (w : Cond) (h : w ∈ ws0) => hts w (List.mem_cons_of_mem _ h)
  have hown : s9.vm.findClass RL = some m.cls := findClass_of_methodNamed B.named
  have hlocks := B.notSynchronized
  have htab : tw_tab c [(0, 12, 15, 19)] := by
    obtain ⟨m', meth', c', h0', h1', h2', -, -, h5', -⟩ := Cond.codeWith_spec (hts (.codeWith yL_swap cL_swap 6 (some .int) [(0, 12, 15, 19)]) List.mem_cons_self)
    cases B.named.symm.trans h0'
    cases B.method.symm.trans h1'
    cases (Stand.of_body B).code.symm.trans h2'
    exact h5'
  have hw := gl_start (sv := sv) hsz hP hD0
  have hl := lv_entry ([.ref (gz_al sa L 0), .int (Int32.ofInt a1), .int (Int32.ofInt a2), .int (Int32.ofInt a3), .ref ou]) (n := 6) (Nat.le_of_ble_eq_true rfl)
  rw [lg_entry_eq]
  generalize (lg_sl ([.ref (gz_al sa L 0), .int (Int32.ofInt a1), .int (Int32.ofInt a2), .int (Int32.ofInt a3), .ref ou]) ++ List.replicate (6 - (lg_sl ([.ref (gz_al sa L 0), .int (Int32.ofInt a1), .int (Int32.ofInt a2), .int (Int32.ofInt a3), .ref ou])).length) Slot.unset).toArray = ls at hl ⊢
  have hl : lv_has ls 6 [(0, .ref (gz_al sa L 0)), (1, .int (Int32.ofInt a1)), (2, .int (Int32.ofInt a2)), (3, .int (Int32.ofInt a3)), (4, .ref ou)] := hl
  refine lv_aload hx hb (gx_d (gq_ok oL_swap 0 (.aload 4) rfl) rfl rfl) (lv_at hl 4 rfl) ?_
  refine lv_iconst (v := 0) hx hb (gx_d (gq_ok oL_swap 2 (.iconst 0) rfl) rfl rfl) (by decide) ?_
  refine lv_aload_n hx hb (gx_d (gq_ok oL_swap 3 (.aload_n 0) rfl) rfl rfl) rfl (lv_at hl 0 rfl) ?_
  refine lv_iload_n hx hb (gx_d (gq_ok oL_swap 4 (.iload_n 1) rfl) rfl rfl) rfl (lv_at hl 1 rfl) ?_
  refine lv_iload_n hx hb (gx_d (gq_ok oL_swap 5 (.iload_n 2) rfl) rfl rfl) rfl (lv_at hl 2 rfl) ?_
  refine lv_iload_n hx hb (gx_d (gq_ok oL_swap 6 (.iload_n 3) rfl) rfl rfl) rfl (lv_at hl 3 rfl) ?_
  refine gl_xcallV (own := RL) (As := [.inl a1, .inl a2, .inl a3]) (rest := [.int 0, .ref ou]) (ci := 12) K hx hb hml hpp hown hG hX hV rfl hS T hL hl.1 ⟨Nat.le_refl _, Nat.le_refl _⟩ ⟨Nat.le_of_eq (Nat.zero_add _), Nat.le_of_eq (Nat.zero_add _)⟩ (Nat.le_of_ble_eq_true rfl) (gp_W.comm (w1 := [gp_ou cy ou g]) hw) (gx_d (gq_ok oL_swap 7 (.invokevirtual 73) rfl) rfl rfl) (fun Lₚ ce q9 H1 locs1 hp hlen hw1 hce hcv hcf => ?_)
  have hw1 := hw1.comm
  refine vx_catch1 (C := px_IAE) (name := "java/lang/IllegalArgumentException") htab hown (by decide) (by decide) (hpp _ hcl) (va_Nw.use rfl hX.1.2.1.1) hce hcv hcf ?_
  refine lv_astore (lv' := (5, .ref q9) :: [(0, .ref (gz_al sa L 0)), (1, .int (Int32.ofInt a1)), (2, .int (Int32.ofInt a2)), (3, .int (Int32.ofInt a3)), (4, .ref ou)]) hx hb (gx_d (gq_ok oL_swap 15 (.astore 5) rfl) rfl rfl) hl (by decide) rfl (fun ls hl => ?_)
  refine lv_iconst (v := 1) hx hb (gx_d (gq_ok oL_swap 17 (.iconst 1) rfl) rfl rfl) (by decide) ?_
  exact gl_iret hx hb hr hlocks hw1 hp hlen trivial (Nat.le_of_eq (Nat.zero_add _)) (Nat.le_of_eq (Nat.zero_add _)) (gx_d (gq_ok oL_swap 18 (.ireturn) rfl) rfl rfl)
set_option maxHeartbeats 2000000 in
theorem w_add_n {l : Launch} {D : va_G} {cy : Nat → ClassId} {sa : Nat → Nat} {sv : Nat} {ws0 : List Cond} {tb : String → gz_T} (K : gl_K l D cy sa sv ws0 tb) (hV : gx_lV ws0 RL 76 (yX12_add, cX12_add, 3, (some .int)) 1) {sh : gz_Sh} {h : gz_H} (a1 : Int) {shₚ : gz_Sh} {hₚ : gz_H} {a s : Nat} (z : Int) (E : gz_Ev ws0 tb 100 (yX12_add, cX12_add, 3, (some .int)) [.inr (.inr (some 0)), .inl a1] sh h (some (.inl z)) shₚ hₚ a s) (hS : sh[0]? = some (false, 12, 17)) (sz ou : Nat) (g : Nat → Int64) (L : List Nat) (hL : L.length = sh.length) : vx_Met l yL_add (Cond.codeWith yL_add cL_add 4 (some .int) [(0, 9, 12, 19), (0, 9, 15, 13)] :: ws0) (gz_rm 101 a s) (gl_Pc D cy sa sv [.ref (gz_al sa L 0), .int (Int32.ofInt a1), .ref ou] sz (gp_ou cy ou g :: va_pl L (gz_f cy sa L sh h))) (gl_Q D cy sa (va_A (gp_ou cy ou g :: va_pl L (gz_f cy sa L sh h)) sz) ou L 0 shₚ hₚ (fun gₚ => gₚ 0 = (Int32.ofInt z).toInt64)) gl_No a s (va_A (gp_ou cy ou g :: va_pl L (gz_f cy sa L sh h)) sz) := by
  refine vx_ofWH (cc := cL_add) (maxL := 4) (ret := (some .int)) (by decide) rfl ?_
  intro p e s9 m args below meth c s₁ B hml hv
  obtain ⟨rfl, hsz, hG, hX, hP, hD0⟩ := hv
  have hx := B.exec
  have hb := B.bytes
  have hr := B.returns
  have hts := atoms_spec (ws := Cond.codeWith yL_add cL_add 4 (some .int) [(0, 9, 12, 19), (0, 9, 15, 13)] :: ws0) B.pre
  have hpp := fun (w : Cond) (h : w ∈ ws0) => hts w (List.mem_cons_of_mem _ h)
  have hown : s9.vm.findClass RL = some m.cls := findClass_of_methodNamed B.named
  have hlocks := B.notSynchronized
  have hw := gl_start (sv := sv) hsz hP hD0
  have hl := lv_entry ([.ref (gz_al sa L 0), .int (Int32.ofInt a1), .ref ou]) (n := 4) (Nat.le_of_ble_eq_true rfl)
  rw [lg_entry_eq]
  generalize (lg_sl ([.ref (gz_al sa L 0), .int (Int32.ofInt a1), .ref ou]) ++ List.replicate (4 - (lg_sl ([.ref (gz_al sa L 0), .int (Int32.ofInt a1), .ref ou])).length) Slot.unset).toArray = ls at hl ⊢
  have hl : lv_has ls 4 [(0, .ref (gz_al sa L 0)), (1, .int (Int32.ofInt a1)), (2, .ref ou)] := hl
  refine lv_aload_n hx hb (gx_d (gq_ok oL_add 0 (.aload_n 2) rfl) rfl rfl) rfl (lv_at hl 2 rfl) ?_
  refine lv_iconst (v := 0) hx hb (gx_d (gq_ok oL_add 1 (.iconst 0) rfl) rfl rfl) (by decide) ?_
  refine lv_aload_n hx hb (gx_d (gq_ok oL_add 2 (.aload_n 0) rfl) rfl rfl) rfl (lv_at hl 0 rfl) ?_
  refine lv_iload_n hx hb (gx_d (gq_ok oL_add 3 (.iload_n 1) rfl) rfl rfl) rfl (lv_at hl 1 rfl) ?_
  refine gl_callV (own := RL) (As := [.inl a1]) (rest := [.int 0, .ref ou]) (ci := 12) K hx hb hml hpp hown hG hX hV rfl hS E hL hl.1 ⟨Nat.le_refl _, Nat.le_refl _⟩ ⟨Nat.le_of_eq (Nat.zero_add _), Nat.le_of_eq (Nat.zero_add _)⟩ (Nat.le_of_ble_eq_true rfl) (gp_W.comm (w1 := [gp_ou cy ou g]) hw) (gx_d (gq_ok oL_add 4 (.invokevirtual 76) rfl) rfl rfl) (fun Lₚ H1 locs1 hp hlen hw1 => ?_)
  have hw1 := hw1.comm
  show W _ _ _ _ _ _ _ _ _ _ _ _ _ _ _ (F0 m 7 ls [.int (Int32.ofInt z), .int 0, .ref ou])
  refine lv_i2l (v := (Int32.ofInt z).toInt64) hx hb (gx_d (gq_ok oL_add 7 (.i2l) rfl) rfl rfl) rfl ?_
  refine gp_last hx hb hG hw1 (gx_d (gq_ok oL_add 8 (.lastore) rfl) rfl rfl) (fun H2 locs2 hw2 => ?_)
  refine lv_goto (tgt := 18) hx hb (gx_d (gq_ok oL_add 9 (.goto 9) rfl) rfl rfl) (by decide) ?_
  refine lv_iconst (v := 0) hx hb (gx_d (gq_ok oL_add 18 (.iconst 0) rfl) rfl rfl) (by decide) ?_
  exact gl_iret hx hb hr hlocks hw2 hp hlen rfl (Nat.le_of_eq (Nat.zero_add _)) (Nat.le_of_eq (Nat.zero_add _)) (gx_d (gq_ok oL_add 19 (.ireturn) rfl) rfl rfl)
set_option maxHeartbeats 2000000 in
theorem w_add_x {l : Launch} {D : va_G} {cy : Nat → ClassId} {sa : Nat → Nat} {sv : Nat} {ws0 : List Cond} {tb : String → gz_T} (K : gl_K l D cy sa sv ws0 tb) (hV : gx_lV ws0 RL 76 (yX12_add, cX12_add, 3, (some .int)) 1) (hcl : Cond.classLink RL 19 "java/lang/IllegalArgumentException" ∈ ws0) {sh : gz_Sh} {h : gz_H} (a1 : Int) (T : gk_T9 ws0 tb (yX12_add, cX12_add, 3, (some .int)) [.inr (.inr (some 0)), .inl a1] sh h px_IAE) (hS : sh[0]? = some (false, 12, 17)) (sz ou : Nat) (g : Nat → Int64) (L : List Nat) (hL : L.length = sh.length) : vx_Met l yL_add (Cond.codeWith yL_add cL_add 4 (some .int) [(0, 9, 12, 19), (0, 9, 15, 13)] :: ws0) (gz_rm 101 1 6) (gl_Pc D cy sa sv [.ref (gz_al sa L 0), .int (Int32.ofInt a1), .ref ou] sz (gp_ou cy ou g :: va_pl L (gz_f cy sa L sh h))) (gl_Q D cy sa (va_A (gp_ou cy ou g :: va_pl L (gz_f cy sa L sh h)) sz) ou L 1 sh h (fun _ => True)) gl_No 1 6 (va_A (gp_ou cy ou g :: va_pl L (gz_f cy sa L sh h)) sz) := by
  refine vx_ofWH (cc := cL_add) (maxL := 4) (ret := (some .int)) (by decide) rfl ?_
  intro p e s9 m args below meth c s₁ B hml hv
  obtain ⟨rfl, hsz, hG, hX, hP, hD0⟩ := hv
  have hx := B.exec
  have hb := B.bytes
  have hr := B.returns
  have hts := atoms_spec (ws := Cond.codeWith yL_add cL_add 4 (some .int) [(0, 9, 12, 19), (0, 9, 15, 13)] :: ws0) B.pre
  have hpp := fun (w : Cond) (h : w ∈ ws0) => hts w (List.mem_cons_of_mem _ h)
  have hown : s9.vm.findClass RL = some m.cls := findClass_of_methodNamed B.named
  have hlocks := B.notSynchronized
  have htab : tw_tab c [(0, 9, 12, 19), (0, 9, 15, 13)] := by
    obtain ⟨m', meth', c', h0', h1', h2', -, -, h5', -⟩ := Cond.codeWith_spec (hts (.codeWith yL_add cL_add 4 (some .int) [(0, 9, 12, 19), (0, 9, 15, 13)]) List.mem_cons_self)
    cases B.named.symm.trans h0'
    cases B.method.symm.trans h1'
    cases (Stand.of_body B).code.symm.trans h2'
    exact h5'
  have hw := gl_start (sv := sv) hsz hP hD0
  have hl := lv_entry ([.ref (gz_al sa L 0), .int (Int32.ofInt a1), .ref ou]) (n := 4) (Nat.le_of_ble_eq_true rfl)
  rw [lg_entry_eq]
  generalize (lg_sl ([.ref (gz_al sa L 0), .int (Int32.ofInt a1), .ref ou]) ++ List.replicate (4 - (lg_sl ([.ref (gz_al sa L 0), .int (Int32.ofInt a1), .ref ou])).length) Slot.unset).toArray = ls at hl ⊢
  have hl : lv_has ls 4 [(0, .ref (gz_al sa L 0)), (1, .int (Int32.ofInt a1)), (2, .ref ou)] := hl
  refine lv_aload_n hx hb (gx_d (gq_ok oL_add 0 (.aload_n 2) rfl) rfl rfl) rfl (lv_at hl 2 rfl) ?_
  refine lv_iconst (v := 0) hx hb (gx_d (gq_ok oL_add 1 (.iconst 0) rfl) rfl rfl) (by decide) ?_
  refine lv_aload_n hx hb (gx_d (gq_ok oL_add 2 (.aload_n 0) rfl) rfl rfl) rfl (lv_at hl 0 rfl) ?_
  refine lv_iload_n hx hb (gx_d (gq_ok oL_add 3 (.iload_n 1) rfl) rfl rfl) rfl (lv_at hl 1 rfl) ?_
  refine gl_xcallV (own := RL) (As := [.inl a1]) (rest := [.int 0, .ref ou]) (ci := 12) K hx hb hml hpp hown hG hX hV rfl hS T hL hl.1 ⟨Nat.le_refl _, Nat.le_refl _⟩ ⟨Nat.le_of_eq (Nat.zero_add _), Nat.le_of_eq (Nat.zero_add _)⟩ (Nat.le_of_ble_eq_true rfl) (gp_W.comm (w1 := [gp_ou cy ou g]) hw) (gx_d (gq_ok oL_add 4 (.invokevirtual 76) rfl) rfl rfl) (fun Lₚ ce q9 H1 locs1 hp hlen hw1 hce hcv hcf => ?_)
  have hw1 := hw1.comm
  refine vx_catch1 (C := px_IAE) (name := "java/lang/IllegalArgumentException") htab hown (by decide) (by decide) (hpp _ hcl) (va_Nw.use rfl hX.1.2.1.1) hce hcv hcf ?_
  refine lv_astore_n (lv' := (3, .ref q9) :: [(0, .ref (gz_al sa L 0)), (1, .int (Int32.ofInt a1)), (2, .ref ou)]) hx hb (gx_d (gq_ok oL_add 12 (.astore_n 3) rfl) rfl rfl) rfl hl (by decide) rfl (fun ls hl => ?_)
  refine lv_iconst (v := 1) hx hb (gx_d (gq_ok oL_add 13 (.iconst 1) rfl) rfl rfl) (by decide) ?_
  exact gl_iret hx hb hr hlocks hw1 hp hlen trivial (Nat.le_of_eq (Nat.zero_add _)) (Nat.le_of_eq (Nat.zero_add _)) (gx_d (gq_ok oL_add 14 (.ireturn) rfl) rfl rfl)
set_option maxHeartbeats 2000000 in
theorem w_ask_n {l : Launch} {D : va_G} {cy : Nat → ClassId} {sa : Nat → Nat} {sv : Nat} {ws0 : List Cond} {tb : String → gz_T} (K : gl_K l D cy sa sv ws0 tb) (hV : gx_lV ws0 RL 79 (yX12_ask, cX12_ask, 4, (some .int)) 1) {sh : gz_Sh} {h : gz_H} (a1 : Int) {shₚ : gz_Sh} {hₚ : gz_H} {a s : Nat} (z : Int) (E : gz_Ev ws0 tb 100 (yX12_ask, cX12_ask, 4, (some .int)) [.inr (.inr (some 0)), .inl a1] sh h (some (.inl z)) shₚ hₚ a s) (hS : sh[0]? = some (false, 12, 17)) (sz ou : Nat) (g : Nat → Int64) (L : List Nat) (hL : L.length = sh.length) : vx_Met l yL_ask (Cond.codeWith yL_ask cL_ask 4 (some .int) [(0, 9, 12, 19)] :: ws0) (gz_rm 101 a s) (gl_Pc D cy sa sv [.ref (gz_al sa L 0), .int (Int32.ofInt a1), .ref ou] sz (gp_ou cy ou g :: va_pl L (gz_f cy sa L sh h))) (gl_Q D cy sa (va_A (gp_ou cy ou g :: va_pl L (gz_f cy sa L sh h)) sz) ou L 0 shₚ hₚ (fun gₚ => gₚ 0 = (Int32.ofInt z).toInt64)) gl_No a s (va_A (gp_ou cy ou g :: va_pl L (gz_f cy sa L sh h)) sz) := by
  refine vx_ofWH (cc := cL_ask) (maxL := 4) (ret := (some .int)) (by decide) rfl ?_
  intro p e s9 m args below meth c s₁ B hml hv
  obtain ⟨rfl, hsz, hG, hX, hP, hD0⟩ := hv
  have hx := B.exec
  have hb := B.bytes
  have hr := B.returns
  have hts := atoms_spec (ws := Cond.codeWith yL_ask cL_ask 4 (some .int) [(0, 9, 12, 19)] :: ws0) B.pre
  have hpp := fun (w : Cond) (h : w ∈ ws0) => hts w (List.mem_cons_of_mem _ h)
  have hown : s9.vm.findClass RL = some m.cls := findClass_of_methodNamed B.named
  have hlocks := B.notSynchronized
  have hw := gl_start (sv := sv) hsz hP hD0
  have hl := lv_entry ([.ref (gz_al sa L 0), .int (Int32.ofInt a1), .ref ou]) (n := 4) (Nat.le_of_ble_eq_true rfl)
  rw [lg_entry_eq]
  generalize (lg_sl ([.ref (gz_al sa L 0), .int (Int32.ofInt a1), .ref ou]) ++ List.replicate (4 - (lg_sl ([.ref (gz_al sa L 0), .int (Int32.ofInt a1), .ref ou])).length) Slot.unset).toArray = ls at hl ⊢
  have hl : lv_has ls 4 [(0, .ref (gz_al sa L 0)), (1, .int (Int32.ofInt a1)), (2, .ref ou)] := hl
  refine lv_aload_n hx hb (gx_d (gq_ok oL_ask 0 (.aload_n 2) rfl) rfl rfl) rfl (lv_at hl 2 rfl) ?_
  refine lv_iconst (v := 0) hx hb (gx_d (gq_ok oL_ask 1 (.iconst 0) rfl) rfl rfl) (by decide) ?_
  refine lv_aload_n hx hb (gx_d (gq_ok oL_ask 2 (.aload_n 0) rfl) rfl rfl) rfl (lv_at hl 0 rfl) ?_
  refine lv_iload_n hx hb (gx_d (gq_ok oL_ask 3 (.iload_n 1) rfl) rfl rfl) rfl (lv_at hl 1 rfl) ?_
  refine gl_callV (own := RL) (As := [.inl a1]) (rest := [.int 0, .ref ou]) (ci := 12) K hx hb hml hpp hown hG hX hV rfl hS E hL hl.1 ⟨Nat.le_refl _, Nat.le_refl _⟩ ⟨Nat.le_of_eq (Nat.zero_add _), Nat.le_of_eq (Nat.zero_add _)⟩ (Nat.le_of_ble_eq_true rfl) (gp_W.comm (w1 := [gp_ou cy ou g]) hw) (gx_d (gq_ok oL_ask 4 (.invokevirtual 79) rfl) rfl rfl) (fun Lₚ H1 locs1 hp hlen hw1 => ?_)
  have hw1 := hw1.comm
  show W _ _ _ _ _ _ _ _ _ _ _ _ _ _ _ (F0 m 7 ls [.int (Int32.ofInt z), .int 0, .ref ou])
  refine lv_i2l (v := (Int32.ofInt z).toInt64) hx hb (gx_d (gq_ok oL_ask 7 (.i2l) rfl) rfl rfl) rfl ?_
  refine gp_last hx hb hG hw1 (gx_d (gq_ok oL_ask 8 (.lastore) rfl) rfl rfl) (fun H2 locs2 hw2 => ?_)
  refine lv_goto (tgt := 15) hx hb (gx_d (gq_ok oL_ask 9 (.goto 6) rfl) rfl rfl) (by decide) ?_
  refine lv_iconst (v := 0) hx hb (gx_d (gq_ok oL_ask 15 (.iconst 0) rfl) rfl rfl) (by decide) ?_
  exact gl_iret hx hb hr hlocks hw2 hp hlen rfl (Nat.le_of_eq (Nat.zero_add _)) (Nat.le_of_eq (Nat.zero_add _)) (gx_d (gq_ok oL_ask 16 (.ireturn) rfl) rfl rfl)
set_option maxHeartbeats 2000000 in
theorem w_ask_x {l : Launch} {D : va_G} {cy : Nat → ClassId} {sa : Nat → Nat} {sv : Nat} {ws0 : List Cond} {tb : String → gz_T} (K : gl_K l D cy sa sv ws0 tb) (hV : gx_lV ws0 RL 79 (yX12_ask, cX12_ask, 4, (some .int)) 1) (hcl : Cond.classLink RL 19 "java/lang/IllegalArgumentException" ∈ ws0) {sh : gz_Sh} {h : gz_H} (a1 : Int) (T : gk_T9 ws0 tb (yX12_ask, cX12_ask, 4, (some .int)) [.inr (.inr (some 0)), .inl a1] sh h px_IAE) (hS : sh[0]? = some (false, 12, 17)) (sz ou : Nat) (g : Nat → Int64) (L : List Nat) (hL : L.length = sh.length) : vx_Met l yL_ask (Cond.codeWith yL_ask cL_ask 4 (some .int) [(0, 9, 12, 19)] :: ws0) (gz_rm 101 1 6) (gl_Pc D cy sa sv [.ref (gz_al sa L 0), .int (Int32.ofInt a1), .ref ou] sz (gp_ou cy ou g :: va_pl L (gz_f cy sa L sh h))) (gl_Q D cy sa (va_A (gp_ou cy ou g :: va_pl L (gz_f cy sa L sh h)) sz) ou L 1 sh h (fun _ => True)) gl_No 1 6 (va_A (gp_ou cy ou g :: va_pl L (gz_f cy sa L sh h)) sz) := by
  refine vx_ofWH (cc := cL_ask) (maxL := 4) (ret := (some .int)) (by decide) rfl ?_
  intro p e s9 m args below meth c s₁ B hml hv
  obtain ⟨rfl, hsz, hG, hX, hP, hD0⟩ := hv
  have hx := B.exec
  have hb := B.bytes
  have hr := B.returns
  have hts := atoms_spec (ws := Cond.codeWith yL_ask cL_ask 4 (some .int) [(0, 9, 12, 19)] :: ws0) B.pre
  have hpp := fun (w : Cond) (h : w ∈ ws0) => hts w (List.mem_cons_of_mem _ h)
  have hown : s9.vm.findClass RL = some m.cls := findClass_of_methodNamed B.named
  have hlocks := B.notSynchronized
  have htab : tw_tab c [(0, 9, 12, 19)] := by
    obtain ⟨m', meth', c', h0', h1', h2', -, -, h5', -⟩ := Cond.codeWith_spec (hts (.codeWith yL_ask cL_ask 4 (some .int) [(0, 9, 12, 19)]) List.mem_cons_self)
    cases B.named.symm.trans h0'
    cases B.method.symm.trans h1'
    cases (Stand.of_body B).code.symm.trans h2'
    exact h5'
  have hw := gl_start (sv := sv) hsz hP hD0
  have hl := lv_entry ([.ref (gz_al sa L 0), .int (Int32.ofInt a1), .ref ou]) (n := 4) (Nat.le_of_ble_eq_true rfl)
  rw [lg_entry_eq]
  generalize (lg_sl ([.ref (gz_al sa L 0), .int (Int32.ofInt a1), .ref ou]) ++ List.replicate (4 - (lg_sl ([.ref (gz_al sa L 0), .int (Int32.ofInt a1), .ref ou])).length) Slot.unset).toArray = ls at hl ⊢
  have hl : lv_has ls 4 [(0, .ref (gz_al sa L 0)), (1, .int (Int32.ofInt a1)), (2, .ref ou)] := hl
  refine lv_aload_n hx hb (gx_d (gq_ok oL_ask 0 (.aload_n 2) rfl) rfl rfl) rfl (lv_at hl 2 rfl) ?_
  refine lv_iconst (v := 0) hx hb (gx_d (gq_ok oL_ask 1 (.iconst 0) rfl) rfl rfl) (by decide) ?_
  refine lv_aload_n hx hb (gx_d (gq_ok oL_ask 2 (.aload_n 0) rfl) rfl rfl) rfl (lv_at hl 0 rfl) ?_
  refine lv_iload_n hx hb (gx_d (gq_ok oL_ask 3 (.iload_n 1) rfl) rfl rfl) rfl (lv_at hl 1 rfl) ?_
  refine gl_xcallV (own := RL) (As := [.inl a1]) (rest := [.int 0, .ref ou]) (ci := 12) K hx hb hml hpp hown hG hX hV rfl hS T hL hl.1 ⟨Nat.le_refl _, Nat.le_refl _⟩ ⟨Nat.le_of_eq (Nat.zero_add _), Nat.le_of_eq (Nat.zero_add _)⟩ (Nat.le_of_ble_eq_true rfl) (gp_W.comm (w1 := [gp_ou cy ou g]) hw) (gx_d (gq_ok oL_ask 4 (.invokevirtual 79) rfl) rfl rfl) (fun Lₚ ce q9 H1 locs1 hp hlen hw1 hce hcv hcf => ?_)
  have hw1 := hw1.comm
  refine vx_catch1 (C := px_IAE) (name := "java/lang/IllegalArgumentException") htab hown (by decide) (by decide) (hpp _ hcl) (va_Nw.use rfl hX.1.2.1.1) hce hcv hcf ?_
  refine lv_astore_n (lv' := (3, .ref q9) :: [(0, .ref (gz_al sa L 0)), (1, .int (Int32.ofInt a1)), (2, .ref ou)]) hx hb (gx_d (gq_ok oL_ask 12 (.astore_n 3) rfl) rfl rfl) rfl hl (by decide) rfl (fun ls hl => ?_)
  refine lv_iconst (v := 1) hx hb (gx_d (gq_ok oL_ask 13 (.iconst 1) rfl) rfl rfl) (by decide) ?_
  exact gl_iret hx hb hr hlocks hw1 hp hlen trivial (Nat.le_of_eq (Nat.zero_add _)) (Nat.le_of_eq (Nat.zero_add _)) (gx_d (gq_ok oL_ask 14 (.ireturn) rfl) rfl rfl)
set_option maxHeartbeats 2000000 in
theorem w_hit_n {l : Launch} {D : va_G} {cy : Nat → ClassId} {sa : Nat → Nat} {sv : Nat} {ws0 : List Cond} {tb : String → gz_T} (K : gl_K l D cy sa sv ws0 tb) (hV : gx_lV ws0 RL 82 (yX12_hit, cX12_hit, 3, (some .int)) 2) {sh : gz_Sh} {h : gz_H} (a1 : Int)  (a2 : Int) {shₚ : gz_Sh} {hₚ : gz_H} {a s : Nat} (z : Int) (E : gz_Ev ws0 tb 100 (yX12_hit, cX12_hit, 3, (some .int)) [.inr (.inr (some 0)), .inl a1, .inl a2] sh h (some (.inl z)) shₚ hₚ a s) (hS : sh[0]? = some (false, 12, 17)) (sz ou : Nat) (g : Nat → Int64) (L : List Nat) (hL : L.length = sh.length) : vx_Met l yL_hit (Cond.codeWith yL_hit cL_hit 5 (some .int) [(0, 10, 13, 19)] :: ws0) (gz_rm 101 a s) (gl_Pc D cy sa sv [.ref (gz_al sa L 0), .int (Int32.ofInt a1), .int (Int32.ofInt a2), .ref ou] sz (gp_ou cy ou g :: va_pl L (gz_f cy sa L sh h))) (gl_Q D cy sa (va_A (gp_ou cy ou g :: va_pl L (gz_f cy sa L sh h)) sz) ou L 0 shₚ hₚ (fun gₚ => gₚ 0 = (Int32.ofInt z).toInt64)) gl_No a s (va_A (gp_ou cy ou g :: va_pl L (gz_f cy sa L sh h)) sz) := by
  refine vx_ofWH (cc := cL_hit) (maxL := 5) (ret := (some .int)) (by decide) rfl ?_
  intro p e s9 m args below meth c s₁ B hml hv
  obtain ⟨rfl, hsz, hG, hX, hP, hD0⟩ := hv
  have hx := B.exec
  have hb := B.bytes
  have hr := B.returns
  have hts := atoms_spec (ws := Cond.codeWith yL_hit cL_hit 5 (some .int) [(0, 10, 13, 19)] :: ws0) B.pre
  have hpp := fun (w : Cond) (h : w ∈ ws0) => hts w (List.mem_cons_of_mem _ h)
  have hown : s9.vm.findClass RL = some m.cls := findClass_of_methodNamed B.named
  have hlocks := B.notSynchronized
  have hw := gl_start (sv := sv) hsz hP hD0
  have hl := lv_entry ([.ref (gz_al sa L 0), .int (Int32.ofInt a1), .int (Int32.ofInt a2), .ref ou]) (n := 5) (Nat.le_of_ble_eq_true rfl)
  rw [lg_entry_eq]
  generalize (lg_sl ([.ref (gz_al sa L 0), .int (Int32.ofInt a1), .int (Int32.ofInt a2), .ref ou]) ++ List.replicate (5 - (lg_sl ([.ref (gz_al sa L 0), .int (Int32.ofInt a1), .int (Int32.ofInt a2), .ref ou])).length) Slot.unset).toArray = ls at hl ⊢
  have hl : lv_has ls 5 [(0, .ref (gz_al sa L 0)), (1, .int (Int32.ofInt a1)), (2, .int (Int32.ofInt a2)), (3, .ref ou)] := hl
  refine lv_aload_n hx hb (gx_d (gq_ok oL_hit 0 (.aload_n 3) rfl) rfl rfl) rfl (lv_at hl 3 rfl) ?_
  refine lv_iconst (v := 0) hx hb (gx_d (gq_ok oL_hit 1 (.iconst 0) rfl) rfl rfl) (by decide) ?_
  refine lv_aload_n hx hb (gx_d (gq_ok oL_hit 2 (.aload_n 0) rfl) rfl rfl) rfl (lv_at hl 0 rfl) ?_
  refine lv_iload_n hx hb (gx_d (gq_ok oL_hit 3 (.iload_n 1) rfl) rfl rfl) rfl (lv_at hl 1 rfl) ?_
  refine lv_iload_n hx hb (gx_d (gq_ok oL_hit 4 (.iload_n 2) rfl) rfl rfl) rfl (lv_at hl 2 rfl) ?_
  refine gl_callV (own := RL) (As := [.inl a1, .inl a2]) (rest := [.int 0, .ref ou]) (ci := 12) K hx hb hml hpp hown hG hX hV rfl hS E hL hl.1 ⟨Nat.le_refl _, Nat.le_refl _⟩ ⟨Nat.le_of_eq (Nat.zero_add _), Nat.le_of_eq (Nat.zero_add _)⟩ (Nat.le_of_ble_eq_true rfl) (gp_W.comm (w1 := [gp_ou cy ou g]) hw) (gx_d (gq_ok oL_hit 5 (.invokevirtual 82) rfl) rfl rfl) (fun Lₚ H1 locs1 hp hlen hw1 => ?_)
  have hw1 := hw1.comm
  show W _ _ _ _ _ _ _ _ _ _ _ _ _ _ _ (F0 m 8 ls [.int (Int32.ofInt z), .int 0, .ref ou])
  refine lv_i2l (v := (Int32.ofInt z).toInt64) hx hb (gx_d (gq_ok oL_hit 8 (.i2l) rfl) rfl rfl) rfl ?_
  refine gp_last hx hb hG hw1 (gx_d (gq_ok oL_hit 9 (.lastore) rfl) rfl rfl) (fun H2 locs2 hw2 => ?_)
  refine lv_goto (tgt := 17) hx hb (gx_d (gq_ok oL_hit 10 (.goto 7) rfl) rfl rfl) (by decide) ?_
  refine lv_iconst (v := 0) hx hb (gx_d (gq_ok oL_hit 17 (.iconst 0) rfl) rfl rfl) (by decide) ?_
  exact gl_iret hx hb hr hlocks hw2 hp hlen rfl (Nat.le_of_eq (Nat.zero_add _)) (Nat.le_of_eq (Nat.zero_add _)) (gx_d (gq_ok oL_hit 18 (.ireturn) rfl) rfl rfl)
set_option maxHeartbeats 2000000 in
theorem w_hit_x {l : Launch} {D : va_G} {cy : Nat → ClassId} {sa : Nat → Nat} {sv : Nat} {ws0 : List Cond} {tb : String → gz_T} (K : gl_K l D cy sa sv ws0 tb) (hV : gx_lV ws0 RL 82 (yX12_hit, cX12_hit, 3, (some .int)) 2) (hcl : Cond.classLink RL 19 "java/lang/IllegalArgumentException" ∈ ws0) {sh : gz_Sh} {h : gz_H} (a1 : Int)  (a2 : Int) (T : gk_T9 ws0 tb (yX12_hit, cX12_hit, 3, (some .int)) [.inr (.inr (some 0)), .inl a1, .inl a2] sh h px_IAE) (hS : sh[0]? = some (false, 12, 17)) (sz ou : Nat) (g : Nat → Int64) (L : List Nat) (hL : L.length = sh.length) : vx_Met l yL_hit (Cond.codeWith yL_hit cL_hit 5 (some .int) [(0, 10, 13, 19)] :: ws0) (gz_rm 101 1 6) (gl_Pc D cy sa sv [.ref (gz_al sa L 0), .int (Int32.ofInt a1), .int (Int32.ofInt a2), .ref ou] sz (gp_ou cy ou g :: va_pl L (gz_f cy sa L sh h))) (gl_Q D cy sa (va_A (gp_ou cy ou g :: va_pl L (gz_f cy sa L sh h)) sz) ou L 1 sh h (fun _ => True)) gl_No 1 6 (va_A (gp_ou cy ou g :: va_pl L (gz_f cy sa L sh h)) sz) := by
  refine vx_ofWH (cc := cL_hit) (maxL := 5) (ret := (some .int)) (by decide) rfl ?_
  intro p e s9 m args below meth c s₁ B hml hv
  obtain ⟨rfl, hsz, hG, hX, hP, hD0⟩ := hv
  have hx := B.exec
  have hb := B.bytes
  have hr := B.returns
  have hts := atoms_spec (ws := Cond.codeWith yL_hit cL_hit 5 (some .int) [(0, 10, 13, 19)] :: ws0) B.pre
  have hpp := fun (w : Cond) (h : w ∈ ws0) => hts w (List.mem_cons_of_mem _ h)
  have hown : s9.vm.findClass RL = some m.cls := findClass_of_methodNamed B.named
  have hlocks := B.notSynchronized
  have htab : tw_tab c [(0, 10, 13, 19)] := by
    obtain ⟨m', meth', c', h0', h1', h2', -, -, h5', -⟩ := Cond.codeWith_spec (hts (.codeWith yL_hit cL_hit 5 (some .int) [(0, 10, 13, 19)]) List.mem_cons_self)
    cases B.named.symm.trans h0'
    cases B.method.symm.trans h1'
    cases (Stand.of_body B).code.symm.trans h2'
    exact h5'
  have hw := gl_start (sv := sv) hsz hP hD0
  have hl := lv_entry ([.ref (gz_al sa L 0), .int (Int32.ofInt a1), .int (Int32.ofInt a2), .ref ou]) (n := 5) (Nat.le_of_ble_eq_true rfl)
  rw [lg_entry_eq]
  generalize (lg_sl ([.ref (gz_al sa L 0), .int (Int32.ofInt a1), .int (Int32.ofInt a2), .ref ou]) ++ List.replicate (5 - (lg_sl ([.ref (gz_al sa L 0), .int (Int32.ofInt a1), .int (Int32.ofInt a2), .ref ou])).length) Slot.unset).toArray = ls at hl ⊢
  have hl : lv_has ls 5 [(0, .ref (gz_al sa L 0)), (1, .int (Int32.ofInt a1)), (2, .int (Int32.ofInt a2)), (3, .ref ou)] := hl
  refine lv_aload_n hx hb (gx_d (gq_ok oL_hit 0 (.aload_n 3) rfl) rfl rfl) rfl (lv_at hl 3 rfl) ?_
  refine lv_iconst (v := 0) hx hb (gx_d (gq_ok oL_hit 1 (.iconst 0) rfl) rfl rfl) (by decide) ?_
  refine lv_aload_n hx hb (gx_d (gq_ok oL_hit 2 (.aload_n 0) rfl) rfl rfl) rfl (lv_at hl 0 rfl) ?_
  refine lv_iload_n hx hb (gx_d (gq_ok oL_hit 3 (.iload_n 1) rfl) rfl rfl) rfl (lv_at hl 1 rfl) ?_
  refine lv_iload_n hx hb (gx_d (gq_ok oL_hit 4 (.iload_n 2) rfl) rfl rfl) rfl (lv_at hl 2 rfl) ?_
  refine gl_xcallV (own := RL) (As := [.inl a1, .inl a2]) (rest := [.int 0, .ref ou]) (ci := 12) K hx hb hml hpp hown hG hX hV rfl hS T hL hl.1 ⟨Nat.le_refl _, Nat.le_refl _⟩ ⟨Nat.le_of_eq (Nat.zero_add _), Nat.le_of_eq (Nat.zero_add _)⟩ (Nat.le_of_ble_eq_true rfl) (gp_W.comm (w1 := [gp_ou cy ou g]) hw) (gx_d (gq_ok oL_hit 5 (.invokevirtual 82) rfl) rfl rfl) (fun Lₚ ce q9 H1 locs1 hp hlen hw1 hce hcv hcf => ?_)
  have hw1 := hw1.comm
  refine vx_catch1 (C := px_IAE) (name := "java/lang/IllegalArgumentException") htab hown (by decide) (by decide) (hpp _ hcl) (va_Nw.use rfl hX.1.2.1.1) hce hcv hcf ?_
  refine lv_astore (lv' := (4, .ref q9) :: [(0, .ref (gz_al sa L 0)), (1, .int (Int32.ofInt a1)), (2, .int (Int32.ofInt a2)), (3, .ref ou)]) hx hb (gx_d (gq_ok oL_hit 13 (.astore 4) rfl) rfl rfl) hl (by decide) rfl (fun ls hl => ?_)
  refine lv_iconst (v := 1) hx hb (gx_d (gq_ok oL_hit 15 (.iconst 1) rfl) rfl rfl) (by decide) ?_
  exact gl_iret hx hb hr hlocks hw1 hp hlen trivial (Nat.le_of_eq (Nat.zero_add _)) (Nat.le_of_eq (Nat.zero_add _)) (gx_d (gq_ok oL_hit 16 (.ireturn) rfl) rfl rfl)
set_option maxHeartbeats 2000000 in
theorem w_mend_n {l : Launch} {D : va_G} {cy : Nat → ClassId} {sa : Nat → Nat} {sv : Nat} {ws0 : List Cond} {tb : String → gz_T} (K : gl_K l D cy sa sv ws0 tb) (hV : gx_lV ws0 RL 85 (yX12_mend, cX12_mend, 10, (some .int)) 2) {sh : gz_Sh} {h : gz_H} (a1 : Int)  (a2 : Int) {shₚ : gz_Sh} {hₚ : gz_H} {a s : Nat} (z : Int) (E : gz_Ev ws0 tb 100 (yX12_mend, cX12_mend, 10, (some .int)) [.inr (.inr (some 0)), .inl a1, .inl a2] sh h (some (.inl z)) shₚ hₚ a s) (hS : sh[0]? = some (false, 12, 17)) (sz ou : Nat) (g : Nat → Int64) (L : List Nat) (hL : L.length = sh.length) : vx_Met l yL_mend (Cond.codeWith yL_mend cL_mend 5 (some .int) [(0, 10, 13, 19)] :: ws0) (gz_rm 101 a s) (gl_Pc D cy sa sv [.ref (gz_al sa L 0), .int (Int32.ofInt a1), .int (Int32.ofInt a2), .ref ou] sz (gp_ou cy ou g :: va_pl L (gz_f cy sa L sh h))) (gl_Q D cy sa (va_A (gp_ou cy ou g :: va_pl L (gz_f cy sa L sh h)) sz) ou L 0 shₚ hₚ (fun gₚ => gₚ 0 = (Int32.ofInt z).toInt64)) gl_No a s (va_A (gp_ou cy ou g :: va_pl L (gz_f cy sa L sh h)) sz) := by
  refine vx_ofWH (cc := cL_mend) (maxL := 5) (ret := (some .int)) (by decide) rfl ?_
  intro p e s9 m args below meth c s₁ B hml hv
  obtain ⟨rfl, hsz, hG, hX, hP, hD0⟩ := hv
  have hx := B.exec
  have hb := B.bytes
  have hr := B.returns
  have hts := atoms_spec (ws := Cond.codeWith yL_mend cL_mend 5 (some .int) [(0, 10, 13, 19)] :: ws0) B.pre
  have hpp := fun (w : Cond) (h : w ∈ ws0) => hts w (List.mem_cons_of_mem _ h)
  have hown : s9.vm.findClass RL = some m.cls := findClass_of_methodNamed B.named
  have hlocks := B.notSynchronized
  have hw := gl_start (sv := sv) hsz hP hD0
  have hl := lv_entry ([.ref (gz_al sa L 0), .int (Int32.ofInt a1), .int (Int32.ofInt a2), .ref ou]) (n := 5) (Nat.le_of_ble_eq_true rfl)
  rw [lg_entry_eq]
  generalize (lg_sl ([.ref (gz_al sa L 0), .int (Int32.ofInt a1), .int (Int32.ofInt a2), .ref ou]) ++ List.replicate (5 - (lg_sl ([.ref (gz_al sa L 0), .int (Int32.ofInt a1), .int (Int32.ofInt a2), .ref ou])).length) Slot.unset).toArray = ls at hl ⊢
  have hl : lv_has ls 5 [(0, .ref (gz_al sa L 0)), (1, .int (Int32.ofInt a1)), (2, .int (Int32.ofInt a2)), (3, .ref ou)] := hl
  refine lv_aload_n hx hb (gx_d (gq_ok oL_mend 0 (.aload_n 3) rfl) rfl rfl) rfl (lv_at hl 3 rfl) ?_
  refine lv_iconst (v := 0) hx hb (gx_d (gq_ok oL_mend 1 (.iconst 0) rfl) rfl rfl) (by decide) ?_
  refine lv_aload_n hx hb (gx_d (gq_ok oL_mend 2 (.aload_n 0) rfl) rfl rfl) rfl (lv_at hl 0 rfl) ?_
  refine lv_iload_n hx hb (gx_d (gq_ok oL_mend 3 (.iload_n 1) rfl) rfl rfl) rfl (lv_at hl 1 rfl) ?_
  refine lv_iload_n hx hb (gx_d (gq_ok oL_mend 4 (.iload_n 2) rfl) rfl rfl) rfl (lv_at hl 2 rfl) ?_
  refine gl_callV (own := RL) (As := [.inl a1, .inl a2]) (rest := [.int 0, .ref ou]) (ci := 12) K hx hb hml hpp hown hG hX hV rfl hS E hL hl.1 ⟨Nat.le_refl _, Nat.le_refl _⟩ ⟨Nat.le_of_eq (Nat.zero_add _), Nat.le_of_eq (Nat.zero_add _)⟩ (Nat.le_of_ble_eq_true rfl) (gp_W.comm (w1 := [gp_ou cy ou g]) hw) (gx_d (gq_ok oL_mend 5 (.invokevirtual 85) rfl) rfl rfl) (fun Lₚ H1 locs1 hp hlen hw1 => ?_)
  have hw1 := hw1.comm
  show W _ _ _ _ _ _ _ _ _ _ _ _ _ _ _ (F0 m 8 ls [.int (Int32.ofInt z), .int 0, .ref ou])
  refine lv_i2l (v := (Int32.ofInt z).toInt64) hx hb (gx_d (gq_ok oL_mend 8 (.i2l) rfl) rfl rfl) rfl ?_
  refine gp_last hx hb hG hw1 (gx_d (gq_ok oL_mend 9 (.lastore) rfl) rfl rfl) (fun H2 locs2 hw2 => ?_)
  refine lv_goto (tgt := 17) hx hb (gx_d (gq_ok oL_mend 10 (.goto 7) rfl) rfl rfl) (by decide) ?_
  refine lv_iconst (v := 0) hx hb (gx_d (gq_ok oL_mend 17 (.iconst 0) rfl) rfl rfl) (by decide) ?_
  exact gl_iret hx hb hr hlocks hw2 hp hlen rfl (Nat.le_of_eq (Nat.zero_add _)) (Nat.le_of_eq (Nat.zero_add _)) (gx_d (gq_ok oL_mend 18 (.ireturn) rfl) rfl rfl)
set_option maxHeartbeats 2000000 in
theorem w_mend_x {l : Launch} {D : va_G} {cy : Nat → ClassId} {sa : Nat → Nat} {sv : Nat} {ws0 : List Cond} {tb : String → gz_T} (K : gl_K l D cy sa sv ws0 tb) (hV : gx_lV ws0 RL 85 (yX12_mend, cX12_mend, 10, (some .int)) 2) (hcl : Cond.classLink RL 19 "java/lang/IllegalArgumentException" ∈ ws0) {sh : gz_Sh} {h : gz_H} (a1 : Int)  (a2 : Int) (T : gk_T9 ws0 tb (yX12_mend, cX12_mend, 10, (some .int)) [.inr (.inr (some 0)), .inl a1, .inl a2] sh h px_IAE) (hS : sh[0]? = some (false, 12, 17)) (sz ou : Nat) (g : Nat → Int64) (L : List Nat) (hL : L.length = sh.length) : vx_Met l yL_mend (Cond.codeWith yL_mend cL_mend 5 (some .int) [(0, 10, 13, 19)] :: ws0) (gz_rm 101 1 6) (gl_Pc D cy sa sv [.ref (gz_al sa L 0), .int (Int32.ofInt a1), .int (Int32.ofInt a2), .ref ou] sz (gp_ou cy ou g :: va_pl L (gz_f cy sa L sh h))) (gl_Q D cy sa (va_A (gp_ou cy ou g :: va_pl L (gz_f cy sa L sh h)) sz) ou L 1 sh h (fun _ => True)) gl_No 1 6 (va_A (gp_ou cy ou g :: va_pl L (gz_f cy sa L sh h)) sz) := by
  refine vx_ofWH (cc := cL_mend) (maxL := 5) (ret := (some .int)) (by decide) rfl ?_
  intro p e s9 m args below meth c s₁ B hml hv
  obtain ⟨rfl, hsz, hG, hX, hP, hD0⟩ := hv
  have hx := B.exec
  have hb := B.bytes
  have hr := B.returns
  have hts := atoms_spec (ws := Cond.codeWith yL_mend cL_mend 5 (some .int) [(0, 10, 13, 19)] :: ws0) B.pre
  have hpp := fun (w : Cond) (h : w ∈ ws0) => hts w (List.mem_cons_of_mem _ h)
  have hown : s9.vm.findClass RL = some m.cls := findClass_of_methodNamed B.named
  have hlocks := B.notSynchronized
  have htab : tw_tab c [(0, 10, 13, 19)] := by
    obtain ⟨m', meth', c', h0', h1', h2', -, -, h5', -⟩ := Cond.codeWith_spec (hts (.codeWith yL_mend cL_mend 5 (some .int) [(0, 10, 13, 19)]) List.mem_cons_self)
    cases B.named.symm.trans h0'
    cases B.method.symm.trans h1'
    cases (Stand.of_body B).code.symm.trans h2'
    exact h5'
  have hw := gl_start (sv := sv) hsz hP hD0
  have hl := lv_entry ([.ref (gz_al sa L 0), .int (Int32.ofInt a1), .int (Int32.ofInt a2), .ref ou]) (n := 5) (Nat.le_of_ble_eq_true rfl)
  rw [lg_entry_eq]
  generalize (lg_sl ([.ref (gz_al sa L 0), .int (Int32.ofInt a1), .int (Int32.ofInt a2), .ref ou]) ++ List.replicate (5 - (lg_sl ([.ref (gz_al sa L 0), .int (Int32.ofInt a1), .int (Int32.ofInt a2), .ref ou])).length) Slot.unset).toArray = ls at hl ⊢
  have hl : lv_has ls 5 [(0, .ref (gz_al sa L 0)), (1, .int (Int32.ofInt a1)), (2, .int (Int32.ofInt a2)), (3, .ref ou)] := hl
  refine lv_aload_n hx hb (gx_d (gq_ok oL_mend 0 (.aload_n 3) rfl) rfl rfl) rfl (lv_at hl 3 rfl) ?_
  refine lv_iconst (v := 0) hx hb (gx_d (gq_ok oL_mend 1 (.iconst 0) rfl) rfl rfl) (by decide) ?_
  refine lv_aload_n hx hb (gx_d (gq_ok oL_mend 2 (.aload_n 0) rfl) rfl rfl) rfl (lv_at hl 0 rfl) ?_
  refine lv_iload_n hx hb (gx_d (gq_ok oL_mend 3 (.iload_n 1) rfl) rfl rfl) rfl (lv_at hl 1 rfl) ?_
  refine lv_iload_n hx hb (gx_d (gq_ok oL_mend 4 (.iload_n 2) rfl) rfl rfl) rfl (lv_at hl 2 rfl) ?_
  refine gl_xcallV (own := RL) (As := [.inl a1, .inl a2]) (rest := [.int 0, .ref ou]) (ci := 12) K hx hb hml hpp hown hG hX hV rfl hS T hL hl.1 ⟨Nat.le_refl _, Nat.le_refl _⟩ ⟨Nat.le_of_eq (Nat.zero_add _), Nat.le_of_eq (Nat.zero_add _)⟩ (Nat.le_of_ble_eq_true rfl) (gp_W.comm (w1 := [gp_ou cy ou g]) hw) (gx_d (gq_ok oL_mend 5 (.invokevirtual 85) rfl) rfl rfl) (fun Lₚ ce q9 H1 locs1 hp hlen hw1 hce hcv hcf => ?_)
  have hw1 := hw1.comm
  refine vx_catch1 (C := px_IAE) (name := "java/lang/IllegalArgumentException") htab hown (by decide) (by decide) (hpp _ hcl) (va_Nw.use rfl hX.1.2.1.1) hce hcv hcf ?_
  refine lv_astore (lv' := (4, .ref q9) :: [(0, .ref (gz_al sa L 0)), (1, .int (Int32.ofInt a1)), (2, .int (Int32.ofInt a2)), (3, .ref ou)]) hx hb (gx_d (gq_ok oL_mend 13 (.astore 4) rfl) rfl rfl) hl (by decide) rfl (fun ls hl => ?_)
  refine lv_iconst (v := 1) hx hb (gx_d (gq_ok oL_mend 15 (.iconst 1) rfl) rfl rfl) (by decide) ?_
  exact gl_iret hx hb hr hlocks hw1 hp hlen trivial (Nat.le_of_eq (Nat.zero_add _)) (Nat.le_of_eq (Nat.zero_add _)) (gx_d (gq_ok oL_mend 16 (.ireturn) rfl) rfl rfl)
set_option maxHeartbeats 2000000 in
theorem w_count_n {l : Launch} {D : va_G} {cy : Nat → ClassId} {sa : Nat → Nat} {sv : Nat} {ws0 : List Cond} {tb : String → gz_T} (K : gl_K l D cy sa sv ws0 tb) (hV : gx_lV ws0 RL 88 (yX12_count, cX12_count, 3, (some .int)) 2) {sh : gz_Sh} {h : gz_H} (a1 : Int)  (a2 : Int) {shₚ : gz_Sh} {hₚ : gz_H} {a s : Nat} (z : Int) (E : gz_Ev ws0 tb 100 (yX12_count, cX12_count, 3, (some .int)) [.inr (.inr (some 0)), .inl a1, .inl a2] sh h (some (.inl z)) shₚ hₚ a s) (hS : sh[0]? = some (false, 12, 17)) (sz ou : Nat) (g : Nat → Int64) (L : List Nat) (hL : L.length = sh.length) : vx_Met l yL_count (Cond.codeWith yL_count cL_count 5 (some .int) [(0, 10, 13, 19)] :: ws0) (gz_rm 101 a s) (gl_Pc D cy sa sv [.ref (gz_al sa L 0), .int (Int32.ofInt a1), .int (Int32.ofInt a2), .ref ou] sz (gp_ou cy ou g :: va_pl L (gz_f cy sa L sh h))) (gl_Q D cy sa (va_A (gp_ou cy ou g :: va_pl L (gz_f cy sa L sh h)) sz) ou L 0 shₚ hₚ (fun gₚ => gₚ 0 = (Int32.ofInt z).toInt64)) gl_No a s (va_A (gp_ou cy ou g :: va_pl L (gz_f cy sa L sh h)) sz) := by
  refine vx_ofWH (cc := cL_count) (maxL := 5) (ret := (some .int)) (by decide) rfl ?_
  intro p e s9 m args below meth c s₁ B hml hv
  obtain ⟨rfl, hsz, hG, hX, hP, hD0⟩ := hv
  have hx := B.exec
  have hb := B.bytes
  have hr := B.returns
  have hts := atoms_spec (ws := Cond.codeWith yL_count cL_count 5 (some .int) [(0, 10, 13, 19)] :: ws0) B.pre
  have hpp := fun (w : Cond) (h : w ∈ ws0) => hts w (List.mem_cons_of_mem _ h)
  have hown : s9.vm.findClass RL = some m.cls := findClass_of_methodNamed B.named
  have hlocks := B.notSynchronized
  have hw := gl_start (sv := sv) hsz hP hD0
  have hl := lv_entry ([.ref (gz_al sa L 0), .int (Int32.ofInt a1), .int (Int32.ofInt a2), .ref ou]) (n := 5) (Nat.le_of_ble_eq_true rfl)
  rw [lg_entry_eq]
  generalize (lg_sl ([.ref (gz_al sa L 0), .int (Int32.ofInt a1), .int (Int32.ofInt a2), .ref ou]) ++ List.replicate (5 - (lg_sl ([.ref (gz_al sa L 0), .int (Int32.ofInt a1), .int (Int32.ofInt a2), .ref ou])).length) Slot.unset).toArray = ls at hl ⊢
  have hl : lv_has ls 5 [(0, .ref (gz_al sa L 0)), (1, .int (Int32.ofInt a1)), (2, .int (Int32.ofInt a2)), (3, .ref ou)] := hl
  refine lv_aload_n hx hb (gx_d (gq_ok oL_count 0 (.aload_n 3) rfl) rfl rfl) rfl (lv_at hl 3 rfl) ?_
  refine lv_iconst (v := 0) hx hb (gx_d (gq_ok oL_count 1 (.iconst 0) rfl) rfl rfl) (by decide) ?_
  refine lv_aload_n hx hb (gx_d (gq_ok oL_count 2 (.aload_n 0) rfl) rfl rfl) rfl (lv_at hl 0 rfl) ?_
  refine lv_iload_n hx hb (gx_d (gq_ok oL_count 3 (.iload_n 1) rfl) rfl rfl) rfl (lv_at hl 1 rfl) ?_
  refine lv_iload_n hx hb (gx_d (gq_ok oL_count 4 (.iload_n 2) rfl) rfl rfl) rfl (lv_at hl 2 rfl) ?_
  refine gl_callV (own := RL) (As := [.inl a1, .inl a2]) (rest := [.int 0, .ref ou]) (ci := 12) K hx hb hml hpp hown hG hX hV rfl hS E hL hl.1 ⟨Nat.le_refl _, Nat.le_refl _⟩ ⟨Nat.le_of_eq (Nat.zero_add _), Nat.le_of_eq (Nat.zero_add _)⟩ (Nat.le_of_ble_eq_true rfl) (gp_W.comm (w1 := [gp_ou cy ou g]) hw) (gx_d (gq_ok oL_count 5 (.invokevirtual 88) rfl) rfl rfl) (fun Lₚ H1 locs1 hp hlen hw1 => ?_)
  have hw1 := hw1.comm
  show W _ _ _ _ _ _ _ _ _ _ _ _ _ _ _ (F0 m 8 ls [.int (Int32.ofInt z), .int 0, .ref ou])
  refine lv_i2l (v := (Int32.ofInt z).toInt64) hx hb (gx_d (gq_ok oL_count 8 (.i2l) rfl) rfl rfl) rfl ?_
  refine gp_last hx hb hG hw1 (gx_d (gq_ok oL_count 9 (.lastore) rfl) rfl rfl) (fun H2 locs2 hw2 => ?_)
  refine lv_goto (tgt := 17) hx hb (gx_d (gq_ok oL_count 10 (.goto 7) rfl) rfl rfl) (by decide) ?_
  refine lv_iconst (v := 0) hx hb (gx_d (gq_ok oL_count 17 (.iconst 0) rfl) rfl rfl) (by decide) ?_
  exact gl_iret hx hb hr hlocks hw2 hp hlen rfl (Nat.le_of_eq (Nat.zero_add _)) (Nat.le_of_eq (Nat.zero_add _)) (gx_d (gq_ok oL_count 18 (.ireturn) rfl) rfl rfl)
set_option maxHeartbeats 2000000 in
theorem w_count_x {l : Launch} {D : va_G} {cy : Nat → ClassId} {sa : Nat → Nat} {sv : Nat} {ws0 : List Cond} {tb : String → gz_T} (K : gl_K l D cy sa sv ws0 tb) (hV : gx_lV ws0 RL 88 (yX12_count, cX12_count, 3, (some .int)) 2) (hcl : Cond.classLink RL 19 "java/lang/IllegalArgumentException" ∈ ws0) {sh : gz_Sh} {h : gz_H} (a1 : Int)  (a2 : Int) (T : gk_T9 ws0 tb (yX12_count, cX12_count, 3, (some .int)) [.inr (.inr (some 0)), .inl a1, .inl a2] sh h px_IAE) (hS : sh[0]? = some (false, 12, 17)) (sz ou : Nat) (g : Nat → Int64) (L : List Nat) (hL : L.length = sh.length) : vx_Met l yL_count (Cond.codeWith yL_count cL_count 5 (some .int) [(0, 10, 13, 19)] :: ws0) (gz_rm 101 1 6) (gl_Pc D cy sa sv [.ref (gz_al sa L 0), .int (Int32.ofInt a1), .int (Int32.ofInt a2), .ref ou] sz (gp_ou cy ou g :: va_pl L (gz_f cy sa L sh h))) (gl_Q D cy sa (va_A (gp_ou cy ou g :: va_pl L (gz_f cy sa L sh h)) sz) ou L 1 sh h (fun _ => True)) gl_No 1 6 (va_A (gp_ou cy ou g :: va_pl L (gz_f cy sa L sh h)) sz) := by
  refine vx_ofWH (cc := cL_count) (maxL := 5) (ret := (some .int)) (by decide) rfl ?_
  intro p e s9 m args below meth c s₁ B hml hv
  obtain ⟨rfl, hsz, hG, hX, hP, hD0⟩ := hv
  have hx := B.exec
  have hb := B.bytes
  have hr := B.returns
  have hts := atoms_spec (ws := Cond.codeWith yL_count cL_count 5 (some .int) [(0, 10, 13, 19)] :: ws0) B.pre
  have hpp := fun (w : Cond) (h : w ∈ ws0) => hts w (List.mem_cons_of_mem _ h)
  have hown : s9.vm.findClass RL = some m.cls := findClass_of_methodNamed B.named
  have hlocks := B.notSynchronized
  have htab : tw_tab c [(0, 10, 13, 19)] := by
    obtain ⟨m', meth', c', h0', h1', h2', -, -, h5', -⟩ := Cond.codeWith_spec (hts (.codeWith yL_count cL_count 5 (some .int) [(0, 10, 13, 19)]) List.mem_cons_self)
    cases B.named.symm.trans h0'
    cases B.method.symm.trans h1'
    cases (Stand.of_body B).code.symm.trans h2'
    exact h5'
  have hw := gl_start (sv := sv) hsz hP hD0
  have hl := lv_entry ([.ref (gz_al sa L 0), .int (Int32.ofInt a1), .int (Int32.ofInt a2), .ref ou]) (n := 5) (Nat.le_of_ble_eq_true rfl)
  rw [lg_entry_eq]
  generalize (lg_sl ([.ref (gz_al sa L 0), .int (Int32.ofInt a1), .int (Int32.ofInt a2), .ref ou]) ++ List.replicate (5 - (lg_sl ([.ref (gz_al sa L 0), .int (Int32.ofInt a1), .int (Int32.ofInt a2), .ref ou])).length) Slot.unset).toArray = ls at hl ⊢
  have hl : lv_has ls 5 [(0, .ref (gz_al sa L 0)), (1, .int (Int32.ofInt a1)), (2, .int (Int32.ofInt a2)), (3, .ref ou)] := hl
  refine lv_aload_n hx hb (gx_d (gq_ok oL_count 0 (.aload_n 3) rfl) rfl rfl) rfl (lv_at hl 3 rfl) ?_
  refine lv_iconst (v := 0) hx hb (gx_d (gq_ok oL_count 1 (.iconst 0) rfl) rfl rfl) (by decide) ?_
  refine lv_aload_n hx hb (gx_d (gq_ok oL_count 2 (.aload_n 0) rfl) rfl rfl) rfl (lv_at hl 0 rfl) ?_
  refine lv_iload_n hx hb (gx_d (gq_ok oL_count 3 (.iload_n 1) rfl) rfl rfl) rfl (lv_at hl 1 rfl) ?_
  refine lv_iload_n hx hb (gx_d (gq_ok oL_count 4 (.iload_n 2) rfl) rfl rfl) rfl (lv_at hl 2 rfl) ?_
  refine gl_xcallV (own := RL) (As := [.inl a1, .inl a2]) (rest := [.int 0, .ref ou]) (ci := 12) K hx hb hml hpp hown hG hX hV rfl hS T hL hl.1 ⟨Nat.le_refl _, Nat.le_refl _⟩ ⟨Nat.le_of_eq (Nat.zero_add _), Nat.le_of_eq (Nat.zero_add _)⟩ (Nat.le_of_ble_eq_true rfl) (gp_W.comm (w1 := [gp_ou cy ou g]) hw) (gx_d (gq_ok oL_count 5 (.invokevirtual 88) rfl) rfl rfl) (fun Lₚ ce q9 H1 locs1 hp hlen hw1 hce hcv hcf => ?_)
  have hw1 := hw1.comm
  refine vx_catch1 (C := px_IAE) (name := "java/lang/IllegalArgumentException") htab hown (by decide) (by decide) (hpp _ hcl) (va_Nw.use rfl hX.1.2.1.1) hce hcv hcf ?_
  refine lv_astore (lv' := (4, .ref q9) :: [(0, .ref (gz_al sa L 0)), (1, .int (Int32.ofInt a1)), (2, .int (Int32.ofInt a2)), (3, .ref ou)]) hx hb (gx_d (gq_ok oL_count 13 (.astore 4) rfl) rfl rfl) hl (by decide) rfl (fun ls hl => ?_)
  refine lv_iconst (v := 1) hx hb (gx_d (gq_ok oL_count 15 (.iconst 1) rfl) rfl rfl) (by decide) ?_
  exact gl_iret hx hb hr hlocks hw1 hp hlen trivial (Nat.le_of_eq (Nat.zero_add _)) (Nat.le_of_eq (Nat.zero_add _)) (gx_d (gq_ok oL_count 16 (.ireturn) rfl) rfl rfl)
