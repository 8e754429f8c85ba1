/-! THE WRAPPERS. -/
def gk_T9 (ws0 : List Cond) (tb : String → gz_T) (M : gx_M) (av : List gz_V) (sh : gz_Sh) (h : gz_H) (E : String) : Prop := gt_Th ws0 tb 100 M av sh h E sh h 1 6
set_option maxHeartbeats 2000000 in
theorem w_feed_n {l : Launch} {D : va_G} {cy : Nat → ClassId} {sa : Nat → Nat} {sv : Nat} {ws0 : List Cond} {tb : String → gz_T} (K : gl_K l D cy sa sv ws0 tb) (hV : gx_lV ws0 RL 7 (yX12_feed, cX12_feed, 6, (some .int)) 5) {sh : gz_Sh} {h : gz_H} (a1 : Int)  (a2 : Int)  (a3 : Int)  (a4 : Int)  (a5 : Int) {shₚ : gz_Sh} {hₚ : gz_H} {a s : Nat} (z : Int) (E : gz_Ev ws0 tb 100 (yX12_feed, cX12_feed, 6, (some .int)) [.inr (.inr (some 0)), .inl a1, .inl a2, .inl a3, .inl a4, .inl a5] sh h (some (.inl z)) shₚ hₚ a s) (hS : sh[0]? = some (false, 12, 17)) (sz ou : Nat) (g : Nat → Int64) (L : List Nat) (hL : L.length = sh.length) : vx_Met l yL_feed (Cond.codeWith yL_feed cL_feed 8 (some .int) [(0, 16, 19, 13)] :: ws0) (gz_rm 101 a s) (gl_Pc D cy sa sv [.ref (gz_al sa L 0), .int (Int32.ofInt a1), .int (Int32.ofInt a2), .int (Int32.ofInt a3), .int (Int32.ofInt a4), .int (Int32.ofInt a5), .ref ou] sz (gp_ou cy ou g :: va_pl L (gz_f cy sa L sh h))) (gl_Q D cy sa (va_A (gp_ou cy ou g :: va_pl L (gz_f cy sa L sh h)) sz) ou L 0 shₚ hₚ (fun gₚ => gₚ 0 = (Int32.ofInt z).toInt64)) gl_No a s (va_A (gp_ou cy ou g :: va_pl L (gz_f cy sa L sh h)) sz) := by
  refine vx_ofWH (cc := cL_feed) (maxL := 8) (ret := (some .int)) (by decide) rfl ?_
  intro p e s9 m args below meth c s₁ B hml hv
  obtain ⟨rfl, hsz, hG, hX, hP, hD0⟩ := hv
  have hx := B.exec
  have hb := B.bytes
  have hr := B.returns
  have hts := atoms_spec (ws := Cond.codeWith yL_feed cL_feed 8 (some .int) [(0, 16, 19, 13)] :: ws0) B.pre
  have hpp := fun (w : Cond) (h : w ∈ ws0) => hts w (List.mem_cons_of_mem _ h)
  have hown : s9.vm.findClass RL = some m.cls := findClass_of_methodNamed B.named
  have hlocks := B.notSynchronized
  have hw := gl_start (sv := sv) hsz hP hD0
  have hl := lv_entry ([.ref (gz_al sa L 0), .int (Int32.ofInt a1), .int (Int32.ofInt a2), .int (Int32.ofInt a3), .int (Int32.ofInt a4), .int (Int32.ofInt a5), .ref ou]) (n := 8) (Nat.le_of_ble_eq_true rfl)
  rw [lg_entry_eq]
  generalize (lg_sl ([.ref (gz_al sa L 0), .int (Int32.ofInt a1), .int (Int32.ofInt a2), .int (Int32.ofInt a3), .int (Int32.ofInt a4), .int (Int32.ofInt a5), .ref ou]) ++ List.replicate (8 - (lg_sl ([.ref (gz_al sa L 0), .int (Int32.ofInt a1), .int (Int32.ofInt a2), .int (Int32.ofInt a3), .int (Int32.ofInt a4), .int (Int32.ofInt a5), .ref ou])).length) Slot.unset).toArray = ls at hl ⊢
  have hl : lv_has ls 8 [(0, .ref (gz_al sa L 0)), (1, .int (Int32.ofInt a1)), (2, .int (Int32.ofInt a2)), (3, .int (Int32.ofInt a3)), (4, .int (Int32.ofInt a4)), (5, .int (Int32.ofInt a5)), (6, .ref ou)] := hl
  refine lv_aload hx hb (gx_d (gq_ok oL_feed 0 (.aload 6) rfl) rfl rfl) (lv_at hl 6 rfl) ?_
  refine lv_iconst (v := 0) hx hb (gx_d (gq_ok oL_feed 2 (.iconst 0) rfl) rfl rfl) (by decide) ?_
  refine lv_aload_n hx hb (gx_d (gq_ok oL_feed 3 (.aload_n 0) rfl) rfl rfl) rfl (lv_at hl 0 rfl) ?_
  refine lv_iload_n hx hb (gx_d (gq_ok oL_feed 4 (.iload_n 1) rfl) rfl rfl) rfl (lv_at hl 1 rfl) ?_
  refine lv_iload_n hx hb (gx_d (gq_ok oL_feed 5 (.iload_n 2) rfl) rfl rfl) rfl (lv_at hl 2 rfl) ?_
  refine lv_iload_n hx hb (gx_d (gq_ok oL_feed 6 (.iload_n 3) rfl) rfl rfl) rfl (lv_at hl 3 rfl) ?_
  refine lv_iload hx hb (gx_d (gq_ok oL_feed 7 (.iload 4) rfl) rfl rfl) (lv_at hl 4 rfl) ?_
  refine lv_iload hx hb (gx_d (gq_ok oL_feed 9 (.iload 5) rfl) rfl rfl) (lv_at hl 5 rfl) ?_
  refine gl_callV (own := RL) (As := [.inl a1, .inl a2, .inl a3, .inl a4, .inl a5]) (rest := [.int 0, .ref ou]) (ci := 12) K hx hb hml hpp hown hG hX hV rfl hS E hL hl.1 ⟨Nat.le_refl _, Nat.le_refl _⟩ ⟨Nat.le_of_eq (Nat.zero_add _), Nat.le_of_eq (Nat.zero_add _)⟩ (Nat.le_of_ble_eq_true rfl) (gp_W.comm (w1 := [gp_ou cy ou g]) hw) (gx_d (gq_ok oL_feed 11 (.invokevirtual 7) rfl) rfl rfl) (fun Lₚ H1 locs1 hp hlen hw1 => ?_)
  have hw1 := hw1.comm
  show W _ _ _ _ _ _ _ _ _ _ _ _ _ _ _ (F0 m 14 ls [.int (Int32.ofInt z), .int 0, .ref ou])
  refine lv_i2l (v := (Int32.ofInt z).toInt64) hx hb (gx_d (gq_ok oL_feed 14 (.i2l) rfl) rfl rfl) rfl ?_
  refine gp_last hx hb hG hw1 (gx_d (gq_ok oL_feed 15 (.lastore) rfl) rfl rfl) (fun H2 locs2 hw2 => ?_)
  refine lv_goto (tgt := 23) hx hb (gx_d (gq_ok oL_feed 16 (.goto 7) rfl) rfl rfl) (by decide) ?_
  refine lv_iconst (v := 0) hx hb (gx_d (gq_ok oL_feed 23 (.iconst 0) rfl) rfl rfl) (by decide) ?_
  exact gl_iret hx hb hr hlocks hw2 hp hlen rfl (Nat.le_of_eq (Nat.zero_add _)) (Nat.le_of_eq (Nat.zero_add _)) (gx_d (gq_ok oL_feed 24 (.ireturn) rfl) rfl rfl)
set_option maxHeartbeats 2000000 in
theorem w_feed_x {l : Launch} {D : va_G} {cy : Nat → ClassId} {sa : Nat → Nat} {sv : Nat} {ws0 : List Cond} {tb : String → gz_T} (K : gl_K l D cy sa sv ws0 tb) (hV : gx_lV ws0 RL 7 (yX12_feed, cX12_feed, 6, (some .int)) 5) (hcl : Cond.classLink RL 13 "java/lang/IllegalStateException" ∈ ws0) {sh : gz_Sh} {h : gz_H} (a1 : Int)  (a2 : Int)  (a3 : Int)  (a4 : Int)  (a5 : Int) (T : gk_T9 ws0 tb (yX12_feed, cX12_feed, 6, (some .int)) [.inr (.inr (some 0)), .inl a1, .inl a2, .inl a3, .inl a4, .inl a5] sh h px_ISE) (hS : sh[0]? = some (false, 12, 17)) (sz ou : Nat) (g : Nat → Int64) (L : List Nat) (hL : L.length = sh.length) : vx_Met l yL_feed (Cond.codeWith yL_feed cL_feed 8 (some .int) [(0, 16, 19, 13)] :: ws0) (gz_rm 101 1 6) (gl_Pc D cy sa sv [.ref (gz_al sa L 0), .int (Int32.ofInt a1), .int (Int32.ofInt a2), .int (Int32.ofInt a3), .int (Int32.ofInt a4), .int (Int32.ofInt a5), .ref ou] sz (gp_ou cy ou g :: va_pl L (gz_f cy sa L sh h))) (gl_Q D cy sa (va_A (gp_ou cy ou g :: va_pl L (gz_f cy sa L sh h)) sz) ou L 1 sh h (fun _ => True)) gl_No 1 6 (va_A (gp_ou cy ou g :: va_pl L (gz_f cy sa L sh h)) sz) := by
  refine vx_ofWH (cc := cL_feed) (maxL := 8) (ret := (some .int)) (by decide) rfl ?_
  intro p e s9 m args below meth c s₁ B hml hv
  obtain ⟨rfl, hsz, hG, hX, hP, hD0⟩ := hv
  have hx := B.exec
  have hb := B.bytes
  have hr := B.returns
  have hts := atoms_spec (ws := Cond.codeWith yL_feed cL_feed 8 (some .int) [(0, 16, 19, 13)] :: ws0) B.pre
  have hpp := fun (w : Cond) (h : w ∈ ws0) => hts w (List.mem_cons_of_mem _ h)
  have hown : s9.vm.findClass RL = some m.cls := findClass_of_methodNamed B.named
  have hlocks := B.notSynchronized
  have htab : tw_tab c [(0, 16, 19, 13)] := by
    obtain ⟨m', meth', c', h0', h1', h2', -, -, h5', -⟩ := Cond.codeWith_spec (hts (.codeWith yL_feed cL_feed 8 (some .int) [(0, 16, 19, 13)]) List.mem_cons_self)
    cases B.named.symm.trans h0'
    cases B.method.symm.trans h1'
    cases (Stand.of_body B).code.symm.trans h2'
    exact h5'
  have hw := gl_start (sv := sv) hsz hP hD0
  have hl := lv_entry ([.ref (gz_al sa L 0), .int (Int32.ofInt a1), .int (Int32.ofInt a2), .int (Int32.ofInt a3), .int (Int32.ofInt a4), .int (Int32.ofInt a5), .ref ou]) (n := 8) (Nat.le_of_ble_eq_true rfl)
  rw [lg_entry_eq]
  generalize (lg_sl ([.ref (gz_al sa L 0), .int (Int32.ofInt a1), .int (Int32.ofInt a2), .int (Int32.ofInt a3), .int (Int32.ofInt a4), .int (Int32.ofInt a5), .ref ou]) ++ List.replicate (8 - (lg_sl ([.ref (gz_al sa L 0), .int (Int32.ofInt a1), .int (Int32.ofInt a2), .int (Int32.ofInt a3), .int (Int32.ofInt a4), .int (Int32.ofInt a5), .ref ou])).length) Slot.unset).toArray = ls at hl ⊢
  have hl : lv_has ls 8 [(0, .ref (gz_al sa L 0)), (1, .int (Int32.ofInt a1)), (2, .int (Int32.ofInt a2)), (3, .int (Int32.ofInt a3)), (4, .int (Int32.ofInt a4)), (5, .int (Int32.ofInt a5)), (6, .ref ou)] := hl
  refine lv_aload hx hb (gx_d (gq_ok oL_feed 0 (.aload 6) rfl) rfl rfl) (lv_at hl 6 rfl) ?_
  refine lv_iconst (v := 0) hx hb (gx_d (gq_ok oL_feed 2 (.iconst 0) rfl) rfl rfl) (by decide) ?_
  refine lv_aload_n hx hb (gx_d (gq_ok oL_feed 3 (.aload_n 0) rfl) rfl rfl) rfl (lv_at hl 0 rfl) ?_
  refine lv_iload_n hx hb (gx_d (gq_ok oL_feed 4 (.iload_n 1) rfl) rfl rfl) rfl (lv_at hl 1 rfl) ?_
  refine lv_iload_n hx hb (gx_d (gq_ok oL_feed 5 (.iload_n 2) rfl) rfl rfl) rfl (lv_at hl 2 rfl) ?_
  refine lv_iload_n hx hb (gx_d (gq_ok oL_feed 6 (.iload_n 3) rfl) rfl rfl) rfl (lv_at hl 3 rfl) ?_
  refine lv_iload hx hb (gx_d (gq_ok oL_feed 7 (.iload 4) rfl) rfl rfl) (lv_at hl 4 rfl) ?_
  refine lv_iload hx hb (gx_d (gq_ok oL_feed 9 (.iload 5) rfl) rfl rfl) (lv_at hl 5 rfl) ?_
  refine gl_xcallV (own := RL) (As := [.inl a1, .inl a2, .inl a3, .inl a4, .inl a5]) (rest := [.int 0, .ref ou]) (ci := 12) K hx hb hml hpp hown hG hX hV rfl hS T hL hl.1 ⟨Nat.le_refl _, Nat.le_refl _⟩ ⟨Nat.le_of_eq (Nat.zero_add _), Nat.le_of_eq (Nat.zero_add _)⟩ (Nat.le_of_ble_eq_true rfl) (gp_W.comm (w1 := [gp_ou cy ou g]) hw) (gx_d (gq_ok oL_feed 11 (.invokevirtual 7) rfl) rfl rfl) (fun Lₚ ce q9 H1 locs1 hp hlen hw1 hce hcv hcf => ?_)
  have hw1 := hw1.comm
  refine vx_catch1 (C := px_ISE) (name := "java/lang/IllegalStateException") htab hown (by decide) (by decide) (hpp _ hcl) (va_Nw.use rfl hX.1.2.1.2.1) hce hcv hcf ?_
  refine lv_astore (lv' := (7, .ref q9) :: [(0, .ref (gz_al sa L 0)), (1, .int (Int32.ofInt a1)), (2, .int (Int32.ofInt a2)), (3, .int (Int32.ofInt a3)), (4, .int (Int32.ofInt a4)), (5, .int (Int32.ofInt a5)), (6, .ref ou)]) hx hb (gx_d (gq_ok oL_feed 19 (.astore 7) rfl) rfl rfl) hl (by decide) rfl (fun ls hl => ?_)
  refine lv_iconst (v := 1) hx hb (gx_d (gq_ok oL_feed 21 (.iconst 1) rfl) rfl rfl) (by decide) ?_
  exact gl_iret hx hb hr hlocks hw1 hp hlen trivial (Nat.le_of_eq (Nat.zero_add _)) (Nat.le_of_eq (Nat.zero_add _)) (gx_d (gq_ok oL_feed 22 (.ireturn) rfl) rfl rfl)
set_option maxHeartbeats 2000000 in
theorem w_end_n {l : Launch} {D : va_G} {cy : Nat → ClassId} {sa : Nat → Nat} {sv : Nat} {ws0 : List Cond} {tb : String → gz_T} (K : gl_K l D cy sa sv ws0 tb) (hV : gx_lV ws0 RL 15 (yX12_end, cX12_end, 2, (some .int)) 1) {sh : gz_Sh} {h : gz_H} (a1 : Int) {shₚ : gz_Sh} {hₚ : gz_H} {a s : Nat} (z : Int) (E : gz_Ev ws0 tb 100 (yX12_end, cX12_end, 2, (some .int)) [.inr (.inr (some 0)), .inl a1] sh h (some (.inl z)) shₚ hₚ a s) (hS : sh[0]? = some (false, 12, 17)) (sz ou : Nat) (g : Nat → Int64) (L : List Nat) (hL : L.length = sh.length) : vx_Met l yL_end (Cond.codeWith yL_end cL_end 4 (some .int) [(0, 9, 12, 19)] :: ws0) (gz_rm 101 a s) (gl_Pc D cy sa sv [.ref (gz_al sa L 0), .int (Int32.ofInt a1), .ref ou] sz (gp_ou cy ou g :: va_pl L (gz_f cy sa L sh h))) (gl_Q D cy sa (va_A (gp_ou cy ou g :: va_pl L (gz_f cy sa L sh h)) sz) ou L 0 shₚ hₚ (fun gₚ => gₚ 0 = (Int32.ofInt z).toInt64)) gl_No a s (va_A (gp_ou cy ou g :: va_pl L (gz_f cy sa L sh h)) sz) := by
  refine vx_ofWH (cc := cL_end) (maxL := 4) (ret := (some .int)) (by decide) rfl ?_
  intro p e s9 m args below meth c s₁ B hml hv
  obtain ⟨rfl, hsz, hG, hX, hP, hD0⟩ := hv
  have hx := B.exec
  have hb := B.bytes
  have hr := B.returns
  have hts := atoms_spec (ws := Cond.codeWith yL_end cL_end 4 (some .int) [(0, 9, 12, 19)] :: ws0) B.pre
  have hpp := fun (w : Cond) (h : w ∈ ws0) => hts w (List.mem_cons_of_mem _ h)
  have hown : s9.vm.findClass RL = some m.cls := findClass_of_methodNamed B.named
  have hlocks := B.notSynchronized
  have hw := gl_start (sv := sv) hsz hP hD0
  have hl := lv_entry ([.ref (gz_al sa L 0), .int (Int32.ofInt a1), .ref ou]) (n := 4) (Nat.le_of_ble_eq_true rfl)
  rw [lg_entry_eq]
  generalize (lg_sl ([.ref (gz_al sa L 0), .int (Int32.ofInt a1), .ref ou]) ++ List.replicate (4 - (lg_sl ([.ref (gz_al sa L 0), .int (Int32.ofInt a1), .ref ou])).length) Slot.unset).toArray = ls at hl ⊢
  have hl : lv_has ls 4 [(0, .ref (gz_al sa L 0)), (1, .int (Int32.ofInt a1)), (2, .ref ou)] := hl
  refine lv_aload_n hx hb (gx_d (gq_ok oL_end 0 (.aload_n 2) rfl) rfl rfl) rfl (lv_at hl 2 rfl) ?_
  refine lv_iconst (v := 0) hx hb (gx_d (gq_ok oL_end 1 (.iconst 0) rfl) rfl rfl) (by decide) ?_
  refine lv_aload_n hx hb (gx_d (gq_ok oL_end 2 (.aload_n 0) rfl) rfl rfl) rfl (lv_at hl 0 rfl) ?_
  refine lv_iload_n hx hb (gx_d (gq_ok oL_end 3 (.iload_n 1) rfl) rfl rfl) rfl (lv_at hl 1 rfl) ?_
  refine gl_callV (own := RL) (As := [.inl a1]) (rest := [.int 0, .ref ou]) (ci := 12) K hx hb hml hpp hown hG hX hV rfl hS E hL hl.1 ⟨Nat.le_refl _, Nat.le_refl _⟩ ⟨Nat.le_of_eq (Nat.zero_add _), Nat.le_of_eq (Nat.zero_add _)⟩ (Nat.le_of_ble_eq_true rfl) (gp_W.comm (w1 := [gp_ou cy ou g]) hw) (gx_d (gq_ok oL_end 4 (.invokevirtual 15) rfl) rfl rfl) (fun Lₚ H1 locs1 hp hlen hw1 => ?_)
  have hw1 := hw1.comm
  show W _ _ _ _ _ _ _ _ _ _ _ _ _ _ _ (F0 m 7 ls [.int (Int32.ofInt z), .int 0, .ref ou])
  refine lv_i2l (v := (Int32.ofInt z).toInt64) hx hb (gx_d (gq_ok oL_end 7 (.i2l) rfl) rfl rfl) rfl ?_
  refine gp_last hx hb hG hw1 (gx_d (gq_ok oL_end 8 (.lastore) rfl) rfl rfl) (fun H2 locs2 hw2 => ?_)
  refine lv_goto (tgt := 15) hx hb (gx_d (gq_ok oL_end 9 (.goto 6) rfl) rfl rfl) (by decide) ?_
  refine lv_iconst (v := 0) hx hb (gx_d (gq_ok oL_end 15 (.iconst 0) rfl) rfl rfl) (by decide) ?_
  exact gl_iret hx hb hr hlocks hw2 hp hlen rfl (Nat.le_of_eq (Nat.zero_add _)) (Nat.le_of_eq (Nat.zero_add _)) (gx_d (gq_ok oL_end 16 (.ireturn) rfl) rfl rfl)
set_option maxHeartbeats 2000000 in
theorem w_end_x {l : Launch} {D : va_G} {cy : Nat → ClassId} {sa : Nat → Nat} {sv : Nat} {ws0 : List Cond} {tb : String → gz_T} (K : gl_K l D cy sa sv ws0 tb) (hV : gx_lV ws0 RL 15 (yX12_end, cX12_end, 2, (some .int)) 1) (hcl : Cond.classLink RL 19 "java/lang/IllegalArgumentException" ∈ ws0) {sh : gz_Sh} {h : gz_H} (a1 : Int) (T : gk_T9 ws0 tb (yX12_end, cX12_end, 2, (some .int)) [.inr (.inr (some 0)), .inl a1] sh h px_IAE) (hS : sh[0]? = some (false, 12, 17)) (sz ou : Nat) (g : Nat → Int64) (L : List Nat) (hL : L.length = sh.length) : vx_Met l yL_end (Cond.codeWith yL_end cL_end 4 (some .int) [(0, 9, 12, 19)] :: ws0) (gz_rm 101 1 6) (gl_Pc D cy sa sv [.ref (gz_al sa L 0), .int (Int32.ofInt a1), .ref ou] sz (gp_ou cy ou g :: va_pl L (gz_f cy sa L sh h))) (gl_Q D cy sa (va_A (gp_ou cy ou g :: va_pl L (gz_f cy sa L sh h)) sz) ou L 1 sh h (fun _ => True)) gl_No 1 6 (va_A (gp_ou cy ou g :: va_pl L (gz_f cy sa L sh h)) sz) := by
  refine vx_ofWH (cc := cL_end) (maxL := 4) (ret := (some .int)) (by decide) rfl ?_
  intro p e s9 m args below meth c s₁ B hml hv
  obtain ⟨rfl, hsz, hG, hX, hP, hD0⟩ := hv
  have hx := B.exec
  have hb := B.bytes
  have hr := B.returns
  have hts := atoms_spec (ws := Cond.codeWith yL_end cL_end 4 (some .int) [(0, 9, 12, 19)] :: ws0) B.pre
  have hpp := fun (w : Cond) (h : w ∈ ws0) => hts w (List.mem_cons_of_mem _ h)
  have hown : s9.vm.findClass RL = some m.cls := findClass_of_methodNamed B.named
  have hlocks := B.notSynchronized
  have htab : tw_tab c [(0, 9, 12, 19)] := by
    obtain ⟨m', meth', c', h0', h1', h2', -, -, h5', -⟩ := Cond.codeWith_spec (hts (.codeWith yL_end cL_end 4 (some .int) [(0, 9, 12, 19)]) List.mem_cons_self)
    cases B.named.symm.trans h0'
    cases B.method.symm.trans h1'
    cases (Stand.of_body B).code.symm.trans h2'
    exact h5'
  have hw := gl_start (sv := sv) hsz hP hD0
  have hl := lv_entry ([.ref (gz_al sa L 0), .int (Int32.ofInt a1), .ref ou]) (n := 4) (Nat.le_of_ble_eq_true rfl)
  rw [lg_entry_eq]
  generalize (lg_sl ([.ref (gz_al sa L 0), .int (Int32.ofInt a1), .ref ou]) ++ List.replicate (4 - (lg_sl ([.ref (gz_al sa L 0), .int (Int32.ofInt a1), .ref ou])).length) Slot.unset).toArray = ls at hl ⊢
  have hl : lv_has ls 4 [(0, .ref (gz_al sa L 0)), (1, .int (Int32.ofInt a1)), (2, .ref ou)] := hl
  refine lv_aload_n hx hb (gx_d (gq_ok oL_end 0 (.aload_n 2) rfl) rfl rfl) rfl (lv_at hl 2 rfl) ?_
  refine lv_iconst (v := 0) hx hb (gx_d (gq_ok oL_end 1 (.iconst 0) rfl) rfl rfl) (by decide) ?_
  refine lv_aload_n hx hb (gx_d (gq_ok oL_end 2 (.aload_n 0) rfl) rfl rfl) rfl (lv_at hl 0 rfl) ?_
  refine lv_iload_n hx hb (gx_d (gq_ok oL_end 3 (.iload_n 1) rfl) rfl rfl) rfl (lv_at hl 1 rfl) ?_
  refine gl_xcallV (own := RL) (As := [.inl a1]) (rest := [.int 0, .ref ou]) (ci := 12) K hx hb hml hpp hown hG hX hV rfl hS T hL hl.1 ⟨Nat.le_refl _, Nat.le_refl _⟩ ⟨Nat.le_of_eq (Nat.zero_add _), Nat.le_of_eq (Nat.zero_add _)⟩ (Nat.le_of_ble_eq_true rfl) (gp_W.comm (w1 := [gp_ou cy ou g]) hw) (gx_d (gq_ok oL_end 4 (.invokevirtual 15) rfl) rfl rfl) (fun Lₚ ce q9 H1 locs1 hp hlen hw1 hce hcv hcf => ?_)
  have hw1 := hw1.comm
  refine vx_catch1 (C := px_IAE) (name := "java/lang/IllegalArgumentException") htab hown (by decide) (by decide) (hpp _ hcl) (va_Nw.use rfl hX.1.2.1.1) hce hcv hcf ?_
  refine lv_astore_n (lv' := (3, .ref q9) :: [(0, .ref (gz_al sa L 0)), (1, .int (Int32.ofInt a1)), (2, .ref ou)]) hx hb (gx_d (gq_ok oL_end 12 (.astore_n 3) rfl) rfl rfl) rfl hl (by decide) rfl (fun ls hl => ?_)
  refine lv_iconst (v := 1) hx hb (gx_d (gq_ok oL_end 13 (.iconst 1) rfl) rfl rfl) (by decide) ?_
  exact gl_iret hx hb hr hlocks hw1 hp hlen trivial (Nat.le_of_eq (Nat.zero_add _)) (Nat.le_of_eq (Nat.zero_add _)) (gx_d (gq_ok oL_end 14 (.ireturn) rfl) rfl rfl)
set_option maxHeartbeats 2000000 in
theorem w_number_n {l : Launch} {D : va_G} {cy : Nat → ClassId} {sa : Nat → Nat} {sv : Nat} {ws0 : List Cond} {tb : String → gz_T} (K : gl_K l D cy sa sv ws0 tb) (hV : gx_lV ws0 RL 21 (yX12_number, cX12_number, 6, (some .int)) 2) {sh : gz_Sh} {h : gz_H} (a1 : Int)  (a2 : Int) {shₚ : gz_Sh} {hₚ : gz_H} {a s : Nat} (z : Int) (E : gz_Ev ws0 tb 100 (yX12_number, cX12_number, 6, (some .int)) [.inr (.inr (some 0)), .inl a1, .inl a2] sh h (some (.inl z)) shₚ hₚ a s) (hS : sh[0]? = some (false, 12, 17)) (sz ou : Nat) (g : Nat → Int64) (L : List Nat) (hL : L.length = sh.length) : vx_Met l yL_number (Cond.codeWith yL_number cL_number 5 (some .int) [(0, 10, 13, 19)] :: ws0) (gz_rm 101 a s) (gl_Pc D cy sa sv [.ref (gz_al sa L 0), .int (Int32.ofInt a1), .int (Int32.ofInt a2), .ref ou] sz (gp_ou cy ou g :: va_pl L (gz_f cy sa L sh h))) (gl_Q D cy sa (va_A (gp_ou cy ou g :: va_pl L (gz_f cy sa L sh h)) sz) ou L 0 shₚ hₚ (fun gₚ => gₚ 0 = (Int32.ofInt z).toInt64)) gl_No a s (va_A (gp_ou cy ou g :: va_pl L (gz_f cy sa L sh h)) sz) := by
  refine vx_ofWH (cc := cL_number) (maxL := 5) (ret := (some .int)) (by decide) rfl ?_
  intro p e s9 m args below meth c s₁ B hml hv
  obtain ⟨rfl, hsz, hG, hX, hP, hD0⟩ := hv
  have hx := B.exec
  have hb := B.bytes
  have hr := B.returns
  have hts := atoms_spec (ws := Cond.codeWith yL_number cL_number 5 (some .int) [(0, 10, 13, 19)] :: ws0) B.pre
  have hpp := fun (w : Cond) (h : w ∈ ws0) => hts w (List.mem_cons_of_mem _ h)
  have hown : s9.vm.findClass RL = some m.cls := findClass_of_methodNamed B.named
  have hlocks := B.notSynchronized
  have hw := gl_start (sv := sv) hsz hP hD0
  have hl := lv_entry ([.ref (gz_al sa L 0), .int (Int32.ofInt a1), .int (Int32.ofInt a2), .ref ou]) (n := 5) (Nat.le_of_ble_eq_true rfl)
  rw [lg_entry_eq]
  generalize (lg_sl ([.ref (gz_al sa L 0), .int (Int32.ofInt a1), .int (Int32.ofInt a2), .ref ou]) ++ List.replicate (5 - (lg_sl ([.ref (gz_al sa L 0), .int (Int32.ofInt a1), .int (Int32.ofInt a2), .ref ou])).length) Slot.unset).toArray = ls at hl ⊢
  have hl : lv_has ls 5 [(0, .ref (gz_al sa L 0)), (1, .int (Int32.ofInt a1)), (2, .int (Int32.ofInt a2)), (3, .ref ou)] := hl
  refine lv_aload_n hx hb (gx_d (gq_ok oL_number 0 (.aload_n 3) rfl) rfl rfl) rfl (lv_at hl 3 rfl) ?_
  refine lv_iconst (v := 0) hx hb (gx_d (gq_ok oL_number 1 (.iconst 0) rfl) rfl rfl) (by decide) ?_
  refine lv_aload_n hx hb (gx_d (gq_ok oL_number 2 (.aload_n 0) rfl) rfl rfl) rfl (lv_at hl 0 rfl) ?_
  refine lv_iload_n hx hb (gx_d (gq_ok oL_number 3 (.iload_n 1) rfl) rfl rfl) rfl (lv_at hl 1 rfl) ?_
  refine lv_iload_n hx hb (gx_d (gq_ok oL_number 4 (.iload_n 2) rfl) rfl rfl) rfl (lv_at hl 2 rfl) ?_
  refine gl_callV (own := RL) (As := [.inl a1, .inl a2]) (rest := [.int 0, .ref ou]) (ci := 12) K hx hb hml hpp hown hG hX hV rfl hS E hL hl.1 ⟨Nat.le_refl _, Nat.le_refl _⟩ ⟨Nat.le_of_eq (Nat.zero_add _), Nat.le_of_eq (Nat.zero_add _)⟩ (Nat.le_of_ble_eq_true rfl) (gp_W.comm (w1 := [gp_ou cy ou g]) hw) (gx_d (gq_ok oL_number 5 (.invokevirtual 21) rfl) rfl rfl) (fun Lₚ H1 locs1 hp hlen hw1 => ?_)
  have hw1 := hw1.comm
  show W _ _ _ _ _ _ _ _ _ _ _ _ _ _ _ (F0 m 8 ls [.int (Int32.ofInt z), .int 0, .ref ou])
  refine lv_i2l (v := (Int32.ofInt z).toInt64) hx hb (gx_d (gq_ok oL_number 8 (.i2l) rfl) rfl rfl) rfl ?_
  refine gp_last hx hb hG hw1 (gx_d (gq_ok oL_number 9 (.lastore) rfl) rfl rfl) (fun H2 locs2 hw2 => ?_)
  refine lv_goto (tgt := 17) hx hb (gx_d (gq_ok oL_number 10 (.goto 7) rfl) rfl rfl) (by decide) ?_
  refine lv_iconst (v := 0) hx hb (gx_d (gq_ok oL_number 17 (.iconst 0) rfl) rfl rfl) (by decide) ?_
  exact gl_iret hx hb hr hlocks hw2 hp hlen rfl (Nat.le_of_eq (Nat.zero_add _)) (Nat.le_of_eq (Nat.zero_add _)) (gx_d (gq_ok oL_number 18 (.ireturn) rfl) rfl rfl)
set_option maxHeartbeats 2000000 in
theorem w_number_x {l : Launch} {D : va_G} {cy : Nat → ClassId} {sa : Nat → Nat} {sv : Nat} {ws0 : List Cond} {tb : String → gz_T} (K : gl_K l D cy sa sv ws0 tb) (hV : gx_lV ws0 RL 21 (yX12_number, cX12_number, 6, (some .int)) 2) (hcl : Cond.classLink RL 19 "java/lang/IllegalArgumentException" ∈ ws0) {sh : gz_Sh} {h : gz_H} (a1 : Int)  (a2 : Int) (T : gk_T9 ws0 tb (yX12_number, cX12_number, 6, (some .int)) [.inr (.inr (some 0)), .inl a1, .inl a2] sh h px_IAE) (hS : sh[0]? = some (false, 12, 17)) (sz ou : Nat) (g : Nat → Int64) (L : List Nat) (hL : L.length = sh.length) : vx_Met l yL_number (Cond.codeWith yL_number cL_number 5 (some .int) [(0, 10, 13, 19)] :: ws0) (gz_rm 101 1 6) (gl_Pc D cy sa sv [.ref (gz_al sa L 0), .int (Int32.ofInt a1), .int (Int32.ofInt a2), .ref ou] sz (gp_ou cy ou g :: va_pl L (gz_f cy sa L sh h))) (gl_Q D cy sa (va_A (gp_ou cy ou g :: va_pl L (gz_f cy sa L sh h)) sz) ou L 1 sh h (fun _ => True)) gl_No 1 6 (va_A (gp_ou cy ou g :: va_pl L (gz_f cy sa L sh h)) sz) := by
  refine vx_ofWH (cc := cL_number) (maxL := 5) (ret := (some .int)) (by decide) rfl ?_
  intro p e s9 m args below meth c s₁ B hml hv
  obtain ⟨rfl, hsz, hG, hX, hP, hD0⟩ := hv
  have hx := B.exec
  have hb := B.bytes
  have hr := B.returns
  have hts := atoms_spec (ws := Cond.codeWith yL_number cL_number 5 (some .int) [(0, 10, 13, 19)] :: ws0) B.pre
  have hpp := fun (w : Cond) (h : w ∈ ws0) => hts w (List.mem_cons_of_mem _ h)
  have hown : s9.vm.findClass RL = some m.cls := findClass_of_methodNamed B.named
  have hlocks := B.notSynchronized
  have htab : tw_tab c [(0, 10, 13, 19)] := by
    obtain ⟨m', meth', c', h0', h1', h2', -, -, h5', -⟩ := Cond.codeWith_spec (hts (.codeWith yL_number cL_number 5 (some .int) [(0, 10, 13, 19)]) List.mem_cons_self)
    cases B.named.symm.trans h0'
    cases B.method.symm.trans h1'
    cases (Stand.of_body B).code.symm.trans h2'
    exact h5'
  have hw := gl_start (sv := sv) hsz hP hD0
  have hl := lv_entry ([.ref (gz_al sa L 0), .int (Int32.ofInt a1), .int (Int32.ofInt a2), .ref ou]) (n := 5) (Nat.le_of_ble_eq_true rfl)
  rw [lg_entry_eq]
  generalize (lg_sl ([.ref (gz_al sa L 0), .int (Int32.ofInt a1), .int (Int32.ofInt a2), .ref ou]) ++ List.replicate (5 - (lg_sl ([.ref (gz_al sa L 0), .int (Int32.ofInt a1), .int (Int32.ofInt a2), .ref ou])).length) Slot.unset).toArray = ls at hl ⊢
  have hl : lv_has ls 5 [(0, .ref (gz_al sa L 0)), (1, .int (Int32.ofInt a1)), (2, .int (Int32.ofInt a2)), (3, .ref ou)] := hl
  refine lv_aload_n hx hb (gx_d (gq_ok oL_number 0 (.aload_n 3) rfl) rfl rfl) rfl (lv_at hl 3 rfl) ?_
  refine lv_iconst (v := 0) hx hb (gx_d (gq_ok oL_number 1 (.iconst 0) rfl) rfl rfl) (by decide) ?_
  refine lv_aload_n hx hb (gx_d (gq_ok oL_number 2 (.aload_n 0) rfl) rfl rfl) rfl (lv_at hl 0 rfl) ?_
  refine lv_iload_n hx hb (gx_d (gq_ok oL_number 3 (.iload_n 1) rfl) rfl rfl) rfl (lv_at hl 1 rfl) ?_
  refine lv_iload_n hx hb (gx_d (gq_ok oL_number 4 (.iload_n 2) rfl) rfl rfl) rfl (lv_at hl 2 rfl) ?_
  refine gl_xcallV (own := RL) (As := [.inl a1, .inl a2]) (rest := [.int 0, .ref ou]) (ci := 12) K hx hb hml hpp hown hG hX hV rfl hS T hL hl.1 ⟨Nat.le_refl _, Nat.le_refl _⟩ ⟨Nat.le_of_eq (Nat.zero_add _), Nat.le_of_eq (Nat.zero_add _)⟩ (Nat.le_of_ble_eq_true rfl) (gp_W.comm (w1 := [gp_ou cy ou g]) hw) (gx_d (gq_ok oL_number 5 (.invokevirtual 21) rfl) rfl rfl) (fun Lₚ ce q9 H1 locs1 hp hlen hw1 hce hcv hcf => ?_)
  have hw1 := hw1.comm
  refine vx_catch1 (C := px_IAE) (name := "java/lang/IllegalArgumentException") htab hown (by decide) (by decide) (hpp _ hcl) (va_Nw.use rfl hX.1.2.1.1) hce hcv hcf ?_
  refine lv_astore (lv' := (4, .ref q9) :: [(0, .ref (gz_al sa L 0)), (1, .int (Int32.ofInt a1)), (2, .int (Int32.ofInt a2)), (3, .ref ou)]) hx hb (gx_d (gq_ok oL_number 13 (.astore 4) rfl) rfl rfl) hl (by decide) rfl (fun ls hl => ?_)
  refine lv_iconst (v := 1) hx hb (gx_d (gq_ok oL_number 15 (.iconst 1) rfl) rfl rfl) (by decide) ?_
  exact gl_iret hx hb hr hlocks hw1 hp hlen trivial (Nat.le_of_eq (Nat.zero_add _)) (Nat.le_of_eq (Nat.zero_add _)) (gx_d (gq_ok oL_number 16 (.ireturn) rfl) rfl rfl)
set_option maxHeartbeats 2000000 in
theorem w_sounds_n {l : Launch} {D : va_G} {cy : Nat → ClassId} {sa : Nat → Nat} {sv : Nat} {ws0 : List Cond} {tb : String → gz_T} (K : gl_K l D cy sa sv ws0 tb) (hV : gx_lV ws0 RL 25 (yX12_sounds, cX12_sounds, 4, (some .int)) 1) {sh : gz_Sh} {h : gz_H} (a1 : Int) {shₚ : gz_Sh} {hₚ : gz_H} {a s : Nat} (z : Int) (E : gz_Ev ws0 tb 100 (yX12_sounds, cX12_sounds, 4, (some .int)) [.inr (.inr (some 0)), .inl a1] sh h (some (.inl z)) shₚ hₚ a s) (hS : sh[0]? = some (false, 12, 17)) (sz ou : Nat) (g : Nat → Int64) (L : List Nat) (hL : L.length = sh.length) : vx_Met l yL_sounds (Cond.codeWith yL_sounds cL_sounds 4 (some .int) [(0, 9, 12, 19)] :: ws0) (gz_rm 101 a s) (gl_Pc D cy sa sv [.ref (gz_al sa L 0), .int (Int32.ofInt a1), .ref ou] sz (gp_ou cy ou g :: va_pl L (gz_f cy sa L sh h))) (gl_Q D cy sa (va_A (gp_ou cy ou g :: va_pl L (gz_f cy sa L sh h)) sz) ou L 0 shₚ hₚ (fun gₚ => gₚ 0 = (Int32.ofInt z).toInt64)) gl_No a s (va_A (gp_ou cy ou g :: va_pl L (gz_f cy sa L sh h)) sz) := by
  refine vx_ofWH (cc := cL_sounds) (maxL := 4) (ret := (some .int)) (by decide) rfl ?_
  intro p e s9 m args below meth c s₁ B hml hv
  obtain ⟨rfl, hsz, hG, hX, hP, hD0⟩ := hv
  have hx := B.exec
  have hb := B.bytes
  have hr := B.returns
  have hts := atoms_spec (ws := Cond.codeWith yL_sounds cL_sounds 4 (some .int) [(0, 9, 12, 19)] :: ws0) B.pre
  have hpp := fun (w : Cond) (h : w ∈ ws0) => hts w (List.mem_cons_of_mem _ h)
  have hown : s9.vm.findClass RL = some m.cls := findClass_of_methodNamed B.named
  have hlocks := B.notSynchronized
  have hw := gl_start (sv := sv) hsz hP hD0
  have hl := lv_entry ([.ref (gz_al sa L 0), .int (Int32.ofInt a1), .ref ou]) (n := 4) (Nat.le_of_ble_eq_true rfl)
  rw [lg_entry_eq]
  generalize (lg_sl ([.ref (gz_al sa L 0), .int (Int32.ofInt a1), .ref ou]) ++ List.replicate (4 - (lg_sl ([.ref (gz_al sa L 0), .int (Int32.ofInt a1), .ref ou])).length) Slot.unset).toArray = ls at hl ⊢
  have hl : lv_has ls 4 [(0, .ref (gz_al sa L 0)), (1, .int (Int32.ofInt a1)), (2, .ref ou)] := hl
  refine lv_aload_n hx hb (gx_d (gq_ok oL_sounds 0 (.aload_n 2) rfl) rfl rfl) rfl (lv_at hl 2 rfl) ?_
  refine lv_iconst (v := 0) hx hb (gx_d (gq_ok oL_sounds 1 (.iconst 0) rfl) rfl rfl) (by decide) ?_
  refine lv_aload_n hx hb (gx_d (gq_ok oL_sounds 2 (.aload_n 0) rfl) rfl rfl) rfl (lv_at hl 0 rfl) ?_
  refine lv_iload_n hx hb (gx_d (gq_ok oL_sounds 3 (.iload_n 1) rfl) rfl rfl) rfl (lv_at hl 1 rfl) ?_
  refine gl_callV (own := RL) (As := [.inl a1]) (rest := [.int 0, .ref ou]) (ci := 12) K hx hb hml hpp hown hG hX hV rfl hS E hL hl.1 ⟨Nat.le_refl _, Nat.le_refl _⟩ ⟨Nat.le_of_eq (Nat.zero_add _), Nat.le_of_eq (Nat.zero_add _)⟩ (Nat.le_of_ble_eq_true rfl) (gp_W.comm (w1 := [gp_ou cy ou g]) hw) (gx_d (gq_ok oL_sounds 4 (.invokevirtual 25) rfl) rfl rfl) (fun Lₚ H1 locs1 hp hlen hw1 => ?_)
  have hw1 := hw1.comm
  show W _ _ _ _ _ _ _ _ _ _ _ _ _ _ _ (F0 m 7 ls [.int (Int32.ofInt z), .int 0, .ref ou])
  refine lv_i2l (v := (Int32.ofInt z).toInt64) hx hb (gx_d (gq_ok oL_sounds 7 (.i2l) rfl) rfl rfl) rfl ?_
  refine gp_last hx hb hG hw1 (gx_d (gq_ok oL_sounds 8 (.lastore) rfl) rfl rfl) (fun H2 locs2 hw2 => ?_)
  refine lv_goto (tgt := 15) hx hb (gx_d (gq_ok oL_sounds 9 (.goto 6) rfl) rfl rfl) (by decide) ?_
  refine lv_iconst (v := 0) hx hb (gx_d (gq_ok oL_sounds 15 (.iconst 0) rfl) rfl rfl) (by decide) ?_
  exact gl_iret hx hb hr hlocks hw2 hp hlen rfl (Nat.le_of_eq (Nat.zero_add _)) (Nat.le_of_eq (Nat.zero_add _)) (gx_d (gq_ok oL_sounds 16 (.ireturn) rfl) rfl rfl)
set_option maxHeartbeats 2000000 in
theorem w_sounds_x {l : Launch} {D : va_G} {cy : Nat → ClassId} {sa : Nat → Nat} {sv : Nat} {ws0 : List Cond} {tb : String → gz_T} (K : gl_K l D cy sa sv ws0 tb) (hV : gx_lV ws0 RL 25 (yX12_sounds, cX12_sounds, 4, (some .int)) 1) (hcl : Cond.classLink RL 19 "java/lang/IllegalArgumentException" ∈ ws0) {sh : gz_Sh} {h : gz_H} (a1 : Int) (T : gk_T9 ws0 tb (yX12_sounds, cX12_sounds, 4, (some .int)) [.inr (.inr (some 0)), .inl a1] sh h px_IAE) (hS : sh[0]? = some (false, 12, 17)) (sz ou : Nat) (g : Nat → Int64) (L : List Nat) (hL : L.length = sh.length) : vx_Met l yL_sounds (Cond.codeWith yL_sounds cL_sounds 4 (some .int) [(0, 9, 12, 19)] :: ws0) (gz_rm 101 1 6) (gl_Pc D cy sa sv [.ref (gz_al sa L 0), .int (Int32.ofInt a1), .ref ou] sz (gp_ou cy ou g :: va_pl L (gz_f cy sa L sh h))) (gl_Q D cy sa (va_A (gp_ou cy ou g :: va_pl L (gz_f cy sa L sh h)) sz) ou L 1 sh h (fun _ => True)) gl_No 1 6 (va_A (gp_ou cy ou g :: va_pl L (gz_f cy sa L sh h)) sz) := by
  refine vx_ofWH (cc := cL_sounds) (maxL := 4) (ret := (some .int)) (by decide) rfl ?_
  intro p e s9 m args below meth c s₁ B hml hv
  obtain ⟨rfl, hsz, hG, hX, hP, hD0⟩ := hv
  have hx := B.exec
  have hb := B.bytes
  have hr := B.returns
  have hts := atoms_spec (ws := Cond.codeWith yL_sounds cL_sounds 4 (some .int) [(0, 9, 12, 19)] :: ws0) B.pre
  have hpp := fun (w : Cond) (h : w ∈ ws0) => hts w (List.mem_cons_of_mem _ h)
  have hown : s9.vm.findClass RL = some m.cls := findClass_of_methodNamed B.named
  have hlocks := B.notSynchronized
  have htab : tw_tab c [(0, 9, 12, 19)] := by
    obtain ⟨m', meth', c', h0', h1', h2', -, -, h5', -⟩ := Cond.codeWith_spec (hts (.codeWith yL_sounds cL_sounds 4 (some .int) [(0, 9, 12, 19)]) List.mem_cons_self)
    cases B.named.symm.trans h0'
    cases B.method.symm.trans h1'
    cases (Stand.of_body B).code.symm.trans h2'
    exact h5'
  have hw := gl_start (sv := sv) hsz hP hD0
  have hl := lv_entry ([.ref (gz_al sa L 0), .int (Int32.ofInt a1), .ref ou]) (n := 4) (Nat.le_of_ble_eq_true rfl)
  rw [lg_entry_eq]
  generalize (lg_sl ([.ref (gz_al sa L 0), .int (Int32.ofInt a1), .ref ou]) ++ List.replicate (4 - (lg_sl ([.ref (gz_al sa L 0), .int (Int32.ofInt a1), .ref ou])).length) Slot.unset).toArray = ls at hl ⊢
  have hl : lv_has ls 4 [(0, .ref (gz_al sa L 0)), (1, .int (Int32.ofInt a1)), (2, .ref ou)] := hl
  refine lv_aload_n hx hb (gx_d (gq_ok oL_sounds 0 (.aload_n 2) rfl) rfl rfl) rfl (lv_at hl 2 rfl) ?_
  refine lv_iconst (v := 0) hx hb (gx_d (gq_ok oL_sounds 1 (.iconst 0) rfl) rfl rfl) (by decide) ?_
  refine lv_aload_n hx hb (gx_d (gq_ok oL_sounds 2 (.aload_n 0) rfl) rfl rfl) rfl (lv_at hl 0 rfl) ?_
  refine lv_iload_n hx hb (gx_d (gq_ok oL_sounds 3 (.iload_n 1) rfl) rfl rfl) rfl (lv_at hl 1 rfl) ?_
  refine gl_xcallV (own := RL) (As := [.inl a1]) (rest := [.int 0, .ref ou]) (ci := 12) K hx hb hml hpp hown hG hX hV rfl hS T hL hl.1 ⟨Nat.le_refl _, Nat.le_refl _⟩ ⟨Nat.le_of_eq (Nat.zero_add _), Nat.le_of_eq (Nat.zero_add _)⟩ (Nat.le_of_ble_eq_true rfl) (gp_W.comm (w1 := [gp_ou cy ou g]) hw) (gx_d (gq_ok oL_sounds 4 (.invokevirtual 25) rfl) rfl rfl) (fun Lₚ ce q9 H1 locs1 hp hlen hw1 hce hcv hcf => ?_)
  have hw1 := hw1.comm
  refine vx_catch1 (C := px_IAE) (name := "java/lang/IllegalArgumentException") htab hown (by decide) (by decide) (hpp _ hcl) (va_Nw.use rfl hX.1.2.1.1) hce hcv hcf ?_
  refine lv_astore_n (lv' := (3, .ref q9) :: [(0, .ref (gz_al sa L 0)), (1, .int (Int32.ofInt a1)), (2, .ref ou)]) hx hb (gx_d (gq_ok oL_sounds 12 (.astore_n 3) rfl) rfl rfl) rfl hl (by decide) rfl (fun ls hl => ?_)
  refine lv_iconst (v := 1) hx hb (gx_d (gq_ok oL_sounds 13 (.iconst 1) rfl) rfl rfl) (by decide) ?_
  exact gl_iret hx hb hr hlocks hw1 hp hlen trivial (Nat.le_of_eq (Nat.zero_add _)) (Nat.le_of_eq (Nat.zero_add _)) (gx_d (gq_ok oL_sounds 14 (.ireturn) rfl) rfl rfl)
set_option maxHeartbeats 2000000 in
theorem w_analyse_n {l : Launch} {D : va_G} {cy : Nat → ClassId} {sa : Nat → Nat} {sv : Nat} {ws0 : List Cond} {tb : String → gz_T} (K : gl_K l D cy sa sv ws0 tb) (hV : gx_lV ws0 RL 28 (yX12_analyse, cX12_analyse, 4, (some .int)) 1) {sh : gz_Sh} {h : gz_H} (a1 : Int) {shₚ : gz_Sh} {hₚ : gz_H} {a s : Nat} (z : Int) (E : gz_Ev ws0 tb 100 (yX12_analyse, cX12_analyse, 4, (some .int)) [.inr (.inr (some 0)), .inl a1] sh h (some (.inl z)) shₚ hₚ a s) (hS : sh[0]? = some (false, 12, 17)) (sz ou : Nat) (g : Nat → Int64) (L : List Nat) (hL : L.length = sh.length) : vx_Met l yL_analyse (Cond.codeWith yL_analyse cL_analyse 4 (some .int) [(0, 9, 12, 19)] :: ws0) (gz_rm 101 a s) (gl_Pc D cy sa sv [.ref (gz_al sa L 0), .int (Int32.ofInt a1), .ref ou] sz (gp_ou cy ou g :: va_pl L (gz_f cy sa L sh h))) (gl_Q D cy sa (va_A (gp_ou cy ou g :: va_pl L (gz_f cy sa L sh h)) sz) ou L 0 shₚ hₚ (fun gₚ => gₚ 0 = (Int32.ofInt z).toInt64)) gl_No a s (va_A (gp_ou cy ou g :: va_pl L (gz_f cy sa L sh h)) sz) := by
  refine vx_ofWH (cc := cL_analyse) (maxL := 4) (ret := (some .int)) (by decide) rfl ?_
  intro p e s9 m args below meth c s₁ B hml hv
  obtain ⟨rfl, hsz, hG, hX, hP, hD0⟩ := hv
  have hx := B.exec
  have hb := B.bytes
  have hr := B.returns
  have hts := atoms_spec (ws := Cond.codeWith yL_analyse cL_analyse 4 (some .int) [(0, 9, 12, 19)] :: ws0) B.pre
  have hpp := fun (w : Cond) (h : w ∈ ws0) => hts w (List.mem_cons_of_mem _ h)
  have hown : s9.vm.findClass RL = some m.cls := findClass_of_methodNamed B.named
  have hlocks := B.notSynchronized
  have hw := gl_start (sv := sv) hsz hP hD0
  have hl := lv_entry ([.ref (gz_al sa L 0), .int (Int32.ofInt a1), .ref ou]) (n := 4) (Nat.le_of_ble_eq_true rfl)
  rw [lg_entry_eq]
  generalize (lg_sl ([.ref (gz_al sa L 0), .int (Int32.ofInt a1), .ref ou]) ++ List.replicate (4 - (lg_sl ([.ref (gz_al sa L 0), .int (Int32.ofInt a1), .ref ou])).length) Slot.unset).toArray = ls at hl ⊢
  have hl : lv_has ls 4 [(0, .ref (gz_al sa L 0)), (1, .int (Int32.ofInt a1)), (2, .ref ou)] := hl
  refine lv_aload_n hx hb (gx_d (gq_ok oL_analyse 0 (.aload_n 2) rfl) rfl rfl) rfl (lv_at hl 2 rfl) ?_
  refine lv_iconst (v := 0) hx hb (gx_d (gq_ok oL_analyse 1 (.iconst 0) rfl) rfl rfl) (by decide) ?_
  refine lv_aload_n hx hb (gx_d (gq_ok oL_analyse 2 (.aload_n 0) rfl) rfl rfl) rfl (lv_at hl 0 rfl) ?_
  refine lv_iload_n hx hb (gx_d (gq_ok oL_analyse 3 (.iload_n 1) rfl) rfl rfl) rfl (lv_at hl 1 rfl) ?_
  refine gl_callV (own := RL) (As := [.inl a1]) (rest := [.int 0, .ref ou]) (ci := 12) K hx hb hml hpp hown hG hX hV rfl hS E hL hl.1 ⟨Nat.le_refl _, Nat.le_refl _⟩ ⟨Nat.le_of_eq (Nat.zero_add _), Nat.le_of_eq (Nat.zero_add _)⟩ (Nat.le_of_ble_eq_true rfl) (gp_W.comm (w1 := [gp_ou cy ou g]) hw) (gx_d (gq_ok oL_analyse 4 (.invokevirtual 28) rfl) rfl rfl) (fun Lₚ H1 locs1 hp hlen hw1 => ?_)
  have hw1 := hw1.comm
  show W _ _ _ _ _ _ _ _ _ _ _ _ _ _ _ (F0 m 7 ls [.int (Int32.ofInt z), .int 0, .ref ou])
  refine lv_i2l (v := (Int32.ofInt z).toInt64) hx hb (gx_d (gq_ok oL_analyse 7 (.i2l) rfl) rfl rfl) rfl ?_
  refine gp_last hx hb hG hw1 (gx_d (gq_ok oL_analyse 8 (.lastore) rfl) rfl rfl) (fun H2 locs2 hw2 => ?_)
  refine lv_goto (tgt := 15) hx hb (gx_d (gq_ok oL_analyse 9 (.goto 6) rfl) rfl rfl) (by decide) ?_
  refine lv_iconst (v := 0) hx hb (gx_d (gq_ok oL_analyse 15 (.iconst 0) rfl) rfl rfl) (by decide) ?_
  exact gl_iret hx hb hr hlocks hw2 hp hlen rfl (Nat.le_of_eq (Nat.zero_add _)) (Nat.le_of_eq (Nat.zero_add _)) (gx_d (gq_ok oL_analyse 16 (.ireturn) rfl) rfl rfl)
set_option maxHeartbeats 2000000 in
theorem w_analyse_x {l : Launch} {D : va_G} {cy : Nat → ClassId} {sa : Nat → Nat} {sv : Nat} {ws0 : List Cond} {tb : String → gz_T} (K : gl_K l D cy sa sv ws0 tb) (hV : gx_lV ws0 RL 28 (yX12_analyse, cX12_analyse, 4, (some .int)) 1) (hcl : Cond.classLink RL 19 "java/lang/IllegalArgumentException" ∈ ws0) {sh : gz_Sh} {h : gz_H} (a1 : Int) (T : gk_T9 ws0 tb (yX12_analyse, cX12_analyse, 4, (some .int)) [.inr (.inr (some 0)), .inl a1] sh h px_IAE) (hS : sh[0]? = some (false, 12, 17)) (sz ou : Nat) (g : Nat → Int64) (L : List Nat) (hL : L.length = sh.length) : vx_Met l yL_analyse (Cond.codeWith yL_analyse cL_analyse 4 (some .int) [(0, 9, 12, 19)] :: ws0) (gz_rm 101 1 6) (gl_Pc D cy sa sv [.ref (gz_al sa L 0), .int (Int32.ofInt a1), .ref ou] sz (gp_ou cy ou g :: va_pl L (gz_f cy sa L sh h))) (gl_Q D cy sa (va_A (gp_ou cy ou g :: va_pl L (gz_f cy sa L sh h)) sz) ou L 1 sh h (fun _ => True)) gl_No 1 6 (va_A (gp_ou cy ou g :: va_pl L (gz_f cy sa L sh h)) sz) := by
  refine vx_ofWH (cc := cL_analyse) (maxL := 4) (ret := (some .int)) (by decide) rfl ?_
  intro p e s9 m args below meth c s₁ B hml hv
  obtain ⟨rfl, hsz, hG, hX, hP, hD0⟩ := hv
  have hx := B.exec
  have hb := B.bytes
  have hr := B.returns
  have hts := atoms_spec (ws := Cond.codeWith yL_analyse cL_analyse 4 (some .int) [(0, 9, 12, 19)] :: ws0) B.pre
  have hpp := fun (w : Cond) (h : w ∈ ws0) => hts w (List.mem_cons_of_mem _ h)
  have hown : s9.vm.findClass RL = some m.cls := findClass_of_methodNamed B.named
  have hlocks := B.notSynchronized
  have htab : tw_tab c [(0, 9, 12, 19)] := by
    obtain ⟨m', meth', c', h0', h1', h2', -, -, h5', -⟩ := Cond.codeWith_spec (hts (.codeWith yL_analyse cL_analyse 4 (some .int) [(0, 9, 12, 19)]) List.mem_cons_self)
    cases B.named.symm.trans h0'
    cases B.method.symm.trans h1'
    cases (Stand.of_body B).code.symm.trans h2'
    exact h5'
  have hw := gl_start (sv := sv) hsz hP hD0
  have hl := lv_entry ([.ref (gz_al sa L 0), .int (Int32.ofInt a1), .ref ou]) (n := 4) (Nat.le_of_ble_eq_true rfl)
  rw [lg_entry_eq]
  generalize (lg_sl ([.ref (gz_al sa L 0), .int (Int32.ofInt a1), .ref ou]) ++ List.replicate (4 - (lg_sl ([.ref (gz_al sa L 0), .int (Int32.ofInt a1), .ref ou])).length) Slot.unset).toArray = ls at hl ⊢
  have hl : lv_has ls 4 [(0, .ref (gz_al sa L 0)), (1, .int (Int32.ofInt a1)), (2, .ref ou)] := hl
  refine lv_aload_n hx hb (gx_d (gq_ok oL_analyse 0 (.aload_n 2) rfl) rfl rfl) rfl (lv_at hl 2 rfl) ?_
  refine lv_iconst (v := 0) hx hb (gx_d (gq_ok oL_analyse 1 (.iconst 0) rfl) rfl rfl) (by decide) ?_
  refine lv_aload_n hx hb (gx_d (gq_ok oL_analyse 2 (.aload_n 0) rfl) rfl rfl) rfl (lv_at hl 0 rfl) ?_
  refine lv_iload_n hx hb (gx_d (gq_ok oL_analyse 3 (.iload_n 1) rfl) rfl rfl) rfl (lv_at hl 1 rfl) ?_
  refine gl_xcallV (own := RL) (As := [.inl a1]) (rest := [.int 0, .ref ou]) (ci := 12) K hx hb hml hpp hown hG hX hV rfl hS T hL hl.1 ⟨Nat.le_refl _, Nat.le_refl _⟩ ⟨Nat.le_of_eq (Nat.zero_add _), Nat.le_of_eq (Nat.zero_add _)⟩ (Nat.le_of_ble_eq_true rfl) (gp_W.comm (w1 := [gp_ou cy ou g]) hw) (gx_d (gq_ok oL_analyse 4 (.invokevirtual 28) rfl) rfl rfl) (fun Lₚ ce q9 H1 locs1 hp hlen hw1 hce hcv hcf => ?_)
  have hw1 := hw1.comm
  refine vx_catch1 (C := px_IAE) (name := "java/lang/IllegalArgumentException") htab hown (by decide) (by decide) (hpp _ hcl) (va_Nw.use rfl hX.1.2.1.1) hce hcv hcf ?_
  refine lv_astore_n (lv' := (3, .ref q9) :: [(0, .ref (gz_al sa L 0)), (1, .int (Int32.ofInt a1)), (2, .ref ou)]) hx hb (gx_d (gq_ok oL_analyse 12 (.astore_n 3) rfl) rfl rfl) rfl hl (by decide) rfl (fun ls hl => ?_)
  refine lv_iconst (v := 1) hx hb (gx_d (gq_ok oL_analyse 13 (.iconst 1) rfl) rfl rfl) (by decide) ?_
  exact gl_iret hx hb hr hlocks hw1 hp hlen trivial (Nat.le_of_eq (Nat.zero_add _)) (Nat.le_of_eq (Nat.zero_add _)) (gx_d (gq_ok oL_analyse 14 (.ireturn) rfl) rfl rfl)
set_option maxHeartbeats 2000000 in
theorem w_analysis_n {l : Launch} {D : va_G} {cy : Nat → ClassId} {sa : Nat → Nat} {sv : Nat} {ws0 : List Cond} {tb : String → gz_T} (K : gl_K l D cy sa sv ws0 tb) (hV : gx_lV ws0 RL 31 (yX12_analysis, cX12_analysis, 3, (some .int)) 2) {sh : gz_Sh} {h : gz_H} (a1 : Int)  (a2 : Int) {shₚ : gz_Sh} {hₚ : gz_H} {a s : Nat} (z : Int) (E : gz_Ev ws0 tb 100 (yX12_analysis, cX12_analysis, 3, (some .int)) [.inr (.inr (some 0)), .inl a1, .inl a2] sh h (some (.inl z)) shₚ hₚ a s) (hS : sh[0]? = some (false, 12, 17)) (sz ou : Nat) (g : Nat → Int64) (L : List Nat) (hL : L.length = sh.length) : vx_Met l yL_analysis (Cond.codeWith yL_analysis cL_analysis 5 (some .int) [(0, 10, 13, 19)] :: ws0) (gz_rm 101 a s) (gl_Pc D cy sa sv [.ref (gz_al sa L 0), .int (Int32.ofInt a1), .int (Int32.ofInt a2), .ref ou] sz (gp_ou cy ou g :: va_pl L (gz_f cy sa L sh h))) (gl_Q D cy sa (va_A (gp_ou cy ou g :: va_pl L (gz_f cy sa L sh h)) sz) ou L 0 shₚ hₚ (fun gₚ => gₚ 0 = (Int32.ofInt z).toInt64)) gl_No a s (va_A (gp_ou cy ou g :: va_pl L (gz_f cy sa L sh h)) sz) := by
  refine vx_ofWH (cc := cL_analysis) (maxL := 5) (ret := (some .int)) (by decide) rfl ?_
  intro p e s9 m args below meth c s₁ B hml hv
  obtain ⟨rfl, hsz, hG, hX, hP, hD0⟩ := hv
  have hx := B.exec
  have hb := B.bytes
  have hr := B.returns
  have hts := atoms_spec (ws := Cond.codeWith yL_analysis cL_analysis 5 (some .int) [(0, 10, 13, 19)] :: ws0) B.pre
  have hpp := fun (w : Cond) (h : w ∈ ws0) => hts w (List.mem_cons_of_mem _ h)
  have hown : s9.vm.findClass RL = some m.cls := findClass_of_methodNamed B.named
  have hlocks := B.notSynchronized
  have hw := gl_start (sv := sv) hsz hP hD0
  have hl := lv_entry ([.ref (gz_al sa L 0), .int (Int32.ofInt a1), .int (Int32.ofInt a2), .ref ou]) (n := 5) (Nat.le_of_ble_eq_true rfl)
  rw [lg_entry_eq]
  generalize (lg_sl ([.ref (gz_al sa L 0), .int (Int32.ofInt a1), .int (Int32.ofInt a2), .ref ou]) ++ List.replicate (5 - (lg_sl ([.ref (gz_al sa L 0), .int (Int32.ofInt a1), .int (Int32.ofInt a2), .ref ou])).length) Slot.unset).toArray = ls at hl ⊢
  have hl : lv_has ls 5 [(0, .ref (gz_al sa L 0)), (1, .int (Int32.ofInt a1)), (2, .int (Int32.ofInt a2)), (3, .ref ou)] := hl
  refine lv_aload_n hx hb (gx_d (gq_ok oL_analysis 0 (.aload_n 3) rfl) rfl rfl) rfl (lv_at hl 3 rfl) ?_
  refine lv_iconst (v := 0) hx hb (gx_d (gq_ok oL_analysis 1 (.iconst 0) rfl) rfl rfl) (by decide) ?_
  refine lv_aload_n hx hb (gx_d (gq_ok oL_analysis 2 (.aload_n 0) rfl) rfl rfl) rfl (lv_at hl 0 rfl) ?_
  refine lv_iload_n hx hb (gx_d (gq_ok oL_analysis 3 (.iload_n 1) rfl) rfl rfl) rfl (lv_at hl 1 rfl) ?_
  refine lv_iload_n hx hb (gx_d (gq_ok oL_analysis 4 (.iload_n 2) rfl) rfl rfl) rfl (lv_at hl 2 rfl) ?_
  refine gl_callV (own := RL) (As := [.inl a1, .inl a2]) (rest := [.int 0, .ref ou]) (ci := 12) K hx hb hml hpp hown hG hX hV rfl hS E hL hl.1 ⟨Nat.le_refl _, Nat.le_refl _⟩ ⟨Nat.le_of_eq (Nat.zero_add _), Nat.le_of_eq (Nat.zero_add _)⟩ (Nat.le_of_ble_eq_true rfl) (gp_W.comm (w1 := [gp_ou cy ou g]) hw) (gx_d (gq_ok oL_analysis 5 (.invokevirtual 31) rfl) rfl rfl) (fun Lₚ H1 locs1 hp hlen hw1 => ?_)
  have hw1 := hw1.comm
  show W _ _ _ _ _ _ _ _ _ _ _ _ _ _ _ (F0 m 8 ls [.int (Int32.ofInt z), .int 0, .ref ou])
  refine lv_i2l (v := (Int32.ofInt z).toInt64) hx hb (gx_d (gq_ok oL_analysis 8 (.i2l) rfl) rfl rfl) rfl ?_
  refine gp_last hx hb hG hw1 (gx_d (gq_ok oL_analysis 9 (.lastore) rfl) rfl rfl) (fun H2 locs2 hw2 => ?_)
  refine lv_goto (tgt := 17) hx hb (gx_d (gq_ok oL_analysis 10 (.goto 7) rfl) rfl rfl) (by decide) ?_
  refine lv_iconst (v := 0) hx hb (gx_d (gq_ok oL_analysis 17 (.iconst 0) rfl) rfl rfl) (by decide) ?_
  exact gl_iret hx hb hr hlocks hw2 hp hlen rfl (Nat.le_of_eq (Nat.zero_add _)) (Nat.le_of_eq (Nat.zero_add _)) (gx_d (gq_ok oL_analysis 18 (.ireturn) rfl) rfl rfl)
set_option maxHeartbeats 2000000 in
theorem w_analysis_x {l : Launch} {D : va_G} {cy : Nat → ClassId} {sa : Nat → Nat} {sv : Nat} {ws0 : List Cond} {tb : String → gz_T} (K : gl_K l D cy sa sv ws0 tb) (hV : gx_lV ws0 RL 31 (yX12_analysis, cX12_analysis, 3, (some .int)) 2) (hcl : Cond.classLink RL 19 "java/lang/IllegalArgumentException" ∈ ws0) {sh : gz_Sh} {h : gz_H} (a1 : Int)  (a2 : Int) (T : gk_T9 ws0 tb (yX12_analysis, cX12_analysis, 3, (some .int)) [.inr (.inr (some 0)), .inl a1, .inl a2] sh h px_IAE) (hS : sh[0]? = some (false, 12, 17)) (sz ou : Nat) (g : Nat → Int64) (L : List Nat) (hL : L.length = sh.length) : vx_Met l yL_analysis (Cond.codeWith yL_analysis cL_analysis 5 (some .int) [(0, 10, 13, 19)] :: ws0) (gz_rm 101 1 6) (gl_Pc D cy sa sv [.ref (gz_al sa L 0), .int (Int32.ofInt a1), .int (Int32.ofInt a2), .ref ou] sz (gp_ou cy ou g :: va_pl L (gz_f cy sa L sh h))) (gl_Q D cy sa (va_A (gp_ou cy ou g :: va_pl L (gz_f cy sa L sh h)) sz) ou L 1 sh h (fun _ => True)) gl_No 1 6 (va_A (gp_ou cy ou g :: va_pl L (gz_f cy sa L sh h)) sz) := by
  refine vx_ofWH (cc := cL_analysis) (maxL := 5) (ret := (some .int)) (by decide) rfl ?_
  intro p e s9 m args below meth c s₁ B hml hv
  obtain ⟨rfl, hsz, hG, hX, hP, hD0⟩ := hv
  have hx := B.exec
  have hb := B.bytes
  have hr := B.returns
  have hts := atoms_spec (ws := Cond.codeWith yL_analysis cL_analysis 5 (some .int) [(0, 10, 13, 19)] :: ws0) B.pre
  have hpp := fun (w : Cond) (h : w ∈ ws0) => hts w (List.mem_cons_of_mem _ h)
  have hown : s9.vm.findClass RL = some m.cls := findClass_of_methodNamed B.named
  have hlocks := B.notSynchronized
  have htab : tw_tab c [(0, 10, 13, 19)] := by
    obtain ⟨m', meth', c', h0', h1', h2', -, -, h5', -⟩ := Cond.codeWith_spec (hts (.codeWith yL_analysis cL_analysis 5 (some .int) [(0, 10, 13, 19)]) List.mem_cons_self)
    cases B.named.symm.trans h0'
    cases B.method.symm.trans h1'
    cases (Stand.of_body B).code.symm.trans h2'
    exact h5'
  have hw := gl_start (sv := sv) hsz hP hD0
  have hl := lv_entry ([.ref (gz_al sa L 0), .int (Int32.ofInt a1), .int (Int32.ofInt a2), .ref ou]) (n := 5) (Nat.le_of_ble_eq_true rfl)
  rw [lg_entry_eq]
  generalize (lg_sl ([.ref (gz_al sa L 0), .int (Int32.ofInt a1), .int (Int32.ofInt a2), .ref ou]) ++ List.replicate (5 - (lg_sl ([.ref (gz_al sa L 0), .int (Int32.ofInt a1), .int (Int32.ofInt a2), .ref ou])).length) Slot.unset).toArray = ls at hl ⊢
  have hl : lv_has ls 5 [(0, .ref (gz_al sa L 0)), (1, .int (Int32.ofInt a1)), (2, .int (Int32.ofInt a2)), (3, .ref ou)] := hl
  refine lv_aload_n hx hb (gx_d (gq_ok oL_analysis 0 (.aload_n 3) rfl) rfl rfl) rfl (lv_at hl 3 rfl) ?_
  refine lv_iconst (v := 0) hx hb (gx_d (gq_ok oL_analysis 1 (.iconst 0) rfl) rfl rfl) (by decide) ?_
  refine lv_aload_n hx hb (gx_d (gq_ok oL_analysis 2 (.aload_n 0) rfl) rfl rfl) rfl (lv_at hl 0 rfl) ?_
  refine lv_iload_n hx hb (gx_d (gq_ok oL_analysis 3 (.iload_n 1) rfl) rfl rfl) rfl (lv_at hl 1 rfl) ?_
  refine lv_iload_n hx hb (gx_d (gq_ok oL_analysis 4 (.iload_n 2) rfl) rfl rfl) rfl (lv_at hl 2 rfl) ?_
  refine gl_xcallV (own := RL) (As := [.inl a1, .inl a2]) (rest := [.int 0, .ref ou]) (ci := 12) K hx hb hml hpp hown hG hX hV rfl hS T hL hl.1 ⟨Nat.le_refl _, Nat.le_refl _⟩ ⟨Nat.le_of_eq (Nat.zero_add _), Nat.le_of_eq (Nat.zero_add _)⟩ (Nat.le_of_ble_eq_true rfl) (gp_W.comm (w1 := [gp_ou cy ou g]) hw) (gx_d (gq_ok oL_analysis 5 (.invokevirtual 31) rfl) rfl rfl) (fun Lₚ ce q9 H1 locs1 hp hlen hw1 hce hcv hcf => ?_)
  have hw1 := hw1.comm
  refine vx_catch1 (C := px_IAE) (name := "java/lang/IllegalArgumentException") htab hown (by decide) (by decide) (hpp _ hcl) (va_Nw.use rfl hX.1.2.1.1) hce hcv hcf ?_
  refine lv_astore (lv' := (4, .ref q9) :: [(0, .ref (gz_al sa L 0)), (1, .int (Int32.ofInt a1)), (2, .int (Int32.ofInt a2)), (3, .ref ou)]) hx hb (gx_d (gq_ok oL_analysis 13 (.astore 4) rfl) rfl rfl) hl (by decide) rfl (fun ls hl => ?_)
  refine lv_iconst (v := 1) hx hb (gx_d (gq_ok oL_analysis 15 (.iconst 1) rfl) rfl rfl) (by decide) ?_
  exact gl_iret hx hb hr hlocks hw1 hp hlen trivial (Nat.le_of_eq (Nat.zero_add _)) (Nat.le_of_eq (Nat.zero_add _)) (gx_d (gq_ok oL_analysis 16 (.ireturn) rfl) rfl rfl)
set_option maxHeartbeats 2000000 in
theorem w_cell_n {l : Launch} {D : va_G} {cy : Nat → ClassId} {sa : Nat → Nat} {sv : Nat} {ws0 : List Cond} {tb : String → gz_T} (K : gl_K l D cy sa sv ws0 tb) (hV : gx_lV ws0 RL 34 (yX12_cell, cX12_cell, 7, (some .int)) 3) {sh : gz_Sh} {h : gz_H} (a1 : Int)  (a2 : Int)  (a3 : Int) {shₚ : gz_Sh} {hₚ : gz_H} {a s : Nat} (z : Int) (E : gz_Ev ws0 tb 100 (yX12_cell, cX12_cell, 7, (some .int)) [.inr (.inr (some 0)), .inl a1, .inl a2, .inl a3] sh h (some (.inl z)) shₚ hₚ a s) (hS : sh[0]? = some (false, 12, 17)) (sz ou : Nat) (g : Nat → Int64) (L : List Nat) (hL : L.length = sh.length) : vx_Met l yL_cell (Cond.codeWith yL_cell cL_cell 6 (some .int) [(0, 12, 15, 19)] :: ws0) (gz_rm 101 a s) (gl_Pc D cy sa sv [.ref (gz_al sa L 0), .int (Int32.ofInt a1), .int (Int32.ofInt a2), .int (Int32.ofInt a3), .ref ou] sz (gp_ou cy ou g :: va_pl L (gz_f cy sa L sh h))) (gl_Q D cy sa (va_A (gp_ou cy ou g :: va_pl L (gz_f cy sa L sh h)) sz) ou L 0 shₚ hₚ (fun gₚ => gₚ 0 = (Int32.ofInt z).toInt64)) gl_No a s (va_A (gp_ou cy ou g :: va_pl L (gz_f cy sa L sh h)) sz) := by
  refine vx_ofWH (cc := cL_cell) (maxL := 6) (ret := (some .int)) (by decide) rfl ?_
  intro p e s9 m args below meth c s₁ B hml hv
  obtain ⟨rfl, hsz, hG, hX, hP, hD0⟩ := hv
  have hx := B.exec
  have hb := B.bytes
  have hr := B.returns
  have hts := atoms_spec (ws := Cond.codeWith yL_cell cL_cell 6 (some .int) [(0, 12, 15, 19)] :: ws0) B.pre
  have hpp := fun (w : Cond) (h : w ∈ ws0) => hts w (List.mem_cons_of_mem _ h)
  have hown : s9.vm.findClass RL = some m.cls := findClass_of_methodNamed B.named
  have hlocks := B.notSynchronized
  have hw := gl_start (sv := sv) hsz hP hD0
  have hl := lv_entry ([.ref (gz_al sa L 0), .int (Int32.ofInt a1), .int (Int32.ofInt a2), .int (Int32.ofInt a3), .ref ou]) (n := 6) (Nat.le_of_ble_eq_true rfl)
  rw [lg_entry_eq]
  generalize (lg_sl ([.ref (gz_al sa L 0), .int (Int32.ofInt a1), .int (Int32.ofInt a2), .int (Int32.ofInt a3), .ref ou]) ++ List.replicate (6 - (lg_sl ([.ref (gz_al sa L 0), .int (Int32.ofInt a1), .int (Int32.ofInt a2), .int (Int32.ofInt a3), .ref ou])).length) Slot.unset).toArray = ls at hl ⊢
  have hl : lv_has ls 6 [(0, .ref (gz_al sa L 0)), (1, .int (Int32.ofInt a1)), (2, .int (Int32.ofInt a2)), (3, .int (Int32.ofInt a3)), (4, .ref ou)] := hl
  refine lv_aload hx hb (gx_d (gq_ok oL_cell 0 (.aload 4) rfl) rfl rfl) (lv_at hl 4 rfl) ?_
  refine lv_iconst (v := 0) hx hb (gx_d (gq_ok oL_cell 2 (.iconst 0) rfl) rfl rfl) (by decide) ?_
  refine lv_aload_n hx hb (gx_d (gq_ok oL_cell 3 (.aload_n 0) rfl) rfl rfl) rfl (lv_at hl 0 rfl) ?_
  refine lv_iload_n hx hb (gx_d (gq_ok oL_cell 4 (.iload_n 1) rfl) rfl rfl) rfl (lv_at hl 1 rfl) ?_
  refine lv_iload_n hx hb (gx_d (gq_ok oL_cell 5 (.iload_n 2) rfl) rfl rfl) rfl (lv_at hl 2 rfl) ?_
  refine lv_iload_n hx hb (gx_d (gq_ok oL_cell 6 (.iload_n 3) rfl) rfl rfl) rfl (lv_at hl 3 rfl) ?_
  refine gl_callV (own := RL) (As := [.inl a1, .inl a2, .inl a3]) (rest := [.int 0, .ref ou]) (ci := 12) K hx hb hml hpp hown hG hX hV rfl hS E hL hl.1 ⟨Nat.le_refl _, Nat.le_refl _⟩ ⟨Nat.le_of_eq (Nat.zero_add _), Nat.le_of_eq (Nat.zero_add _)⟩ (Nat.le_of_ble_eq_true rfl) (gp_W.comm (w1 := [gp_ou cy ou g]) hw) (gx_d (gq_ok oL_cell 7 (.invokevirtual 34) rfl) rfl rfl) (fun Lₚ H1 locs1 hp hlen hw1 => ?_)
  have hw1 := hw1.comm
  show W _ _ _ _ _ _ _ _ _ _ _ _ _ _ _ (F0 m 10 ls [.int (Int32.ofInt z), .int 0, .ref ou])
  refine lv_i2l (v := (Int32.ofInt z).toInt64) hx hb (gx_d (gq_ok oL_cell 10 (.i2l) rfl) rfl rfl) rfl ?_
  refine gp_last hx hb hG hw1 (gx_d (gq_ok oL_cell 11 (.lastore) rfl) rfl rfl) (fun H2 locs2 hw2 => ?_)
  refine lv_goto (tgt := 19) hx hb (gx_d (gq_ok oL_cell 12 (.goto 7) rfl) rfl rfl) (by decide) ?_
  refine lv_iconst (v := 0) hx hb (gx_d (gq_ok oL_cell 19 (.iconst 0) rfl) rfl rfl) (by decide) ?_
  exact gl_iret hx hb hr hlocks hw2 hp hlen rfl (Nat.le_of_eq (Nat.zero_add _)) (Nat.le_of_eq (Nat.zero_add _)) (gx_d (gq_ok oL_cell 20 (.ireturn) rfl) rfl rfl)
set_option maxHeartbeats 2000000 in
theorem w_cell_x {l : Launch} {D : va_G} {cy : Nat → ClassId} {sa : Nat → Nat} {sv : Nat} {ws0 : List Cond} {tb : String → gz_T} (K : gl_K l D cy sa sv ws0 tb) (hV : gx_lV ws0 RL 34 (yX12_cell, cX12_cell, 7, (some .int)) 3) (hcl : Cond.classLink RL 19 "java/lang/IllegalArgumentException" ∈ ws0) {sh : gz_Sh} {h : gz_H} (a1 : Int)  (a2 : Int)  (a3 : Int) (T : gk_T9 ws0 tb (yX12_cell, cX12_cell, 7, (some .int)) [.inr (.inr (some 0)), .inl a1, .inl a2, .inl a3] sh h px_IAE) (hS : sh[0]? = some (false, 12, 17)) (sz ou : Nat) (g : Nat → Int64) (L : List Nat) (hL : L.length = sh.length) : vx_Met l yL_cell (Cond.codeWith yL_cell cL_cell 6 (some .int) [(0, 12, 15, 19)] :: ws0) (gz_rm 101 1 6) (gl_Pc D cy sa sv [.ref (gz_al sa L 0), .int (Int32.ofInt a1), .int (Int32.ofInt a2), .int (Int32.ofInt a3), .ref ou] sz (gp_ou cy ou g :: va_pl L (gz_f cy sa L sh h))) (gl_Q D cy sa (va_A (gp_ou cy ou g :: va_pl L (gz_f cy sa L sh h)) sz) ou L 1 sh h (fun _ => True)) gl_No 1 6 (va_A (gp_ou cy ou g :: va_pl L (gz_f cy sa L sh h)) sz) := by
  refine vx_ofWH (cc := cL_cell) (maxL := 6) (ret := (some .int)) (by decide) rfl ?_
  intro p e s9 m args below meth c s₁ B hml hv
  obtain ⟨rfl, hsz, hG, hX, hP, hD0⟩ := hv
  have hx := B.exec
  have hb := B.bytes
  have hr := B.returns
  have hts := atoms_spec (ws := Cond.codeWith yL_cell cL_cell 6 (some .int) [(0, 12, 15, 19)] :: ws0) B.pre
  have hpp := fun (w : Cond) (h : w ∈ ws0) => hts w (List.mem_cons_of_mem _ h)
  have hown : s9.vm.findClass RL = some m.cls := findClass_of_methodNamed B.named
  have hlocks := B.notSynchronized
  have htab : tw_tab c [(0, 12, 15, 19)] := by
    obtain ⟨m', meth', c', h0', h1', h2', -, -, h5', -⟩ := Cond.codeWith_spec (hts (.codeWith yL_cell cL_cell 6 (some .int) [(0, 12, 15, 19)]) List.mem_cons_self)
    cases B.named.symm.trans h0'
    cases B.method.symm.trans h1'
    cases (Stand.of_body B).code.symm.trans h2'
    exact h5'
  have hw := gl_start (sv := sv) hsz hP hD0
  have hl := lv_entry ([.ref (gz_al sa L 0), .int (Int32.ofInt a1), .int (Int32.ofInt a2), .int (Int32.ofInt a3), .ref ou]) (n := 6) (Nat.le_of_ble_eq_true rfl)
  rw [lg_entry_eq]
  generalize (lg_sl ([.ref (gz_al sa L 0), .int (Int32.ofInt a1), .int (Int32.ofInt a2), .int (Int32.ofInt a3), .ref ou]) ++ List.replicate (6 - (lg_sl ([.ref (gz_al sa L 0), .int (Int32.ofInt a1), .int (Int32.ofInt a2), .int (Int32.ofInt a3), .ref ou])).length) Slot.unset).toArray = ls at hl ⊢
  have hl : lv_has ls 6 [(0, .ref (gz_al sa L 0)), (1, .int (Int32.ofInt a1)), (2, .int (Int32.ofInt a2)), (3, .int (Int32.ofInt a3)), (4, .ref ou)] := hl
  refine lv_aload hx hb (gx_d (gq_ok oL_cell 0 (.aload 4) rfl) rfl rfl) (lv_at hl 4 rfl) ?_
  refine lv_iconst (v := 0) hx hb (gx_d (gq_ok oL_cell 2 (.iconst 0) rfl) rfl rfl) (by decide) ?_
  refine lv_aload_n hx hb (gx_d (gq_ok oL_cell 3 (.aload_n 0) rfl) rfl rfl) rfl (lv_at hl 0 rfl) ?_
  refine lv_iload_n hx hb (gx_d (gq_ok oL_cell 4 (.iload_n 1) rfl) rfl rfl) rfl (lv_at hl 1 rfl) ?_
  refine lv_iload_n hx hb (gx_d (gq_ok oL_cell 5 (.iload_n 2) rfl) rfl rfl) rfl (lv_at hl 2 rfl) ?_
  refine lv_iload_n hx hb (gx_d (gq_ok oL_cell 6 (.iload_n 3) rfl) rfl rfl) rfl (lv_at hl 3 rfl) ?_
  refine gl_xcallV (own := RL) (As := [.inl a1, .inl a2, .inl a3]) (rest := [.int 0, .ref ou]) (ci := 12) K hx hb hml hpp hown hG hX hV rfl hS T hL hl.1 ⟨Nat.le_refl _, Nat.le_refl _⟩ ⟨Nat.le_of_eq (Nat.zero_add _), Nat.le_of_eq (Nat.zero_add _)⟩ (Nat.le_of_ble_eq_true rfl) (gp_W.comm (w1 := [gp_ou cy ou g]) hw) (gx_d (gq_ok oL_cell 7 (.invokevirtual 34) rfl) rfl rfl) (fun Lₚ ce q9 H1 locs1 hp hlen hw1 hce hcv hcf => ?_)
  have hw1 := hw1.comm
  refine vx_catch1 (C := px_IAE) (name := "java/lang/IllegalArgumentException") htab hown (by decide) (by decide) (hpp _ hcl) (va_Nw.use rfl hX.1.2.1.1) hce hcv hcf ?_
  refine lv_astore (lv' := (5, .ref q9) :: [(0, .ref (gz_al sa L 0)), (1, .int (Int32.ofInt a1)), (2, .int (Int32.ofInt a2)), (3, .int (Int32.ofInt a3)), (4, .ref ou)]) hx hb (gx_d (gq_ok oL_cell 15 (.astore 5) rfl) rfl rfl) hl (by decide) rfl (fun ls hl => ?_)
  refine lv_iconst (v := 1) hx hb (gx_d (gq_ok oL_cell 17 (.iconst 1) rfl) rfl rfl) (by decide) ?_
  exact gl_iret hx hb hr hlocks hw1 hp hlen trivial (Nat.le_of_eq (Nat.zero_add _)) (Nat.le_of_eq (Nat.zero_add _)) (gx_d (gq_ok oL_cell 18 (.ireturn) rfl) rfl rfl)
set_option maxHeartbeats 2000000 in
theorem w_guess_n {l : Launch} {D : va_G} {cy : Nat → ClassId} {sa : Nat → Nat} {sv : Nat} {ws0 : List Cond} {tb : String → gz_T} (K : gl_K l D cy sa sv ws0 tb) (hV : gx_lV ws0 RL 38 (yX12_guess, cX12_guess, 4, (some .int)) 1) {sh : gz_Sh} {h : gz_H} (a1 : Int) {shₚ : gz_Sh} {hₚ : gz_H} {a s : Nat} (z : Int) (E : gz_Ev ws0 tb 100 (yX12_guess, cX12_guess, 4, (some .int)) [.inr (.inr (some 0)), .inl a1] sh h (some (.inl z)) shₚ hₚ a s) (hS : sh[0]? = some (false, 12, 17)) (sz ou : Nat) (g : Nat → Int64) (L : List Nat) (hL : L.length = sh.length) : vx_Met l yL_guess (Cond.codeWith yL_guess cL_guess 4 (some .int) [(0, 9, 12, 19)] :: ws0) (gz_rm 101 a s) (gl_Pc D cy sa sv [.ref (gz_al sa L 0), .int (Int32.ofInt a1), .ref ou] sz (gp_ou cy ou g :: va_pl L (gz_f cy sa L sh h))) (gl_Q D cy sa (va_A (gp_ou cy ou g :: va_pl L (gz_f cy sa L sh h)) sz) ou L 0 shₚ hₚ (fun gₚ => gₚ 0 = (Int32.ofInt z).toInt64)) gl_No a s (va_A (gp_ou cy ou g :: va_pl L (gz_f cy sa L sh h)) sz) := by
  refine vx_ofWH (cc := cL_guess) (maxL := 4) (ret := (some .int)) (by decide) rfl ?_
  intro p e s9 m args below meth c s₁ B hml hv
  obtain ⟨rfl, hsz, hG, hX, hP, hD0⟩ := hv
  have hx := B.exec
  have hb := B.bytes
  have hr := B.returns
  have hts := atoms_spec (ws := Cond.codeWith yL_guess cL_guess 4 (some .int) [(0, 9, 12, 19)] :: ws0) B.pre
  have hpp := fun (w : Cond) (h : w ∈ ws0) => hts w (List.mem_cons_of_mem _ h)
  have hown : s9.vm.findClass RL = some m.cls := findClass_of_methodNamed B.named
  have hlocks := B.notSynchronized
  have hw := gl_start (sv := sv) hsz hP hD0
  have hl := lv_entry ([.ref (gz_al sa L 0), .int (Int32.ofInt a1), .ref ou]) (n := 4) (Nat.le_of_ble_eq_true rfl)
  rw [lg_entry_eq]
  generalize (lg_sl ([.ref (gz_al sa L 0), .int (Int32.ofInt a1), .ref ou]) ++ List.replicate (4 - (lg_sl ([.ref (gz_al sa L 0), .int (Int32.ofInt a1), .ref ou])).length) Slot.unset).toArray = ls at hl ⊢
  have hl : lv_has ls 4 [(0, .ref (gz_al sa L 0)), (1, .int (Int32.ofInt a1)), (2, .ref ou)] := hl
  refine lv_aload_n hx hb (gx_d (gq_ok oL_guess 0 (.aload_n 2) rfl) rfl rfl) rfl (lv_at hl 2 rfl) ?_
  refine lv_iconst (v := 0) hx hb (gx_d (gq_ok oL_guess 1 (.iconst 0) rfl) rfl rfl) (by decide) ?_
  refine lv_aload_n hx hb (gx_d (gq_ok oL_guess 2 (.aload_n 0) rfl) rfl rfl) rfl (lv_at hl 0 rfl) ?_
  refine lv_iload_n hx hb (gx_d (gq_ok oL_guess 3 (.iload_n 1) rfl) rfl rfl) rfl (lv_at hl 1 rfl) ?_
  refine gl_callV (own := RL) (As := [.inl a1]) (rest := [.int 0, .ref ou]) (ci := 12) K hx hb hml hpp hown hG hX hV rfl hS E hL hl.1 ⟨Nat.le_refl _, Nat.le_refl _⟩ ⟨Nat.le_of_eq (Nat.zero_add _), Nat.le_of_eq (Nat.zero_add _)⟩ (Nat.le_of_ble_eq_true rfl) (gp_W.comm (w1 := [gp_ou cy ou g]) hw) (gx_d (gq_ok oL_guess 4 (.invokevirtual 38) rfl) rfl rfl) (fun Lₚ H1 locs1 hp hlen hw1 => ?_)
  have hw1 := hw1.comm
  show W _ _ _ _ _ _ _ _ _ _ _ _ _ _ _ (F0 m 7 ls [.int (Int32.ofInt z), .int 0, .ref ou])
  refine lv_i2l (v := (Int32.ofInt z).toInt64) hx hb (gx_d (gq_ok oL_guess 7 (.i2l) rfl) rfl rfl) rfl ?_
  refine gp_last hx hb hG hw1 (gx_d (gq_ok oL_guess 8 (.lastore) rfl) rfl rfl) (fun H2 locs2 hw2 => ?_)
  refine lv_goto (tgt := 15) hx hb (gx_d (gq_ok oL_guess 9 (.goto 6) rfl) rfl rfl) (by decide) ?_
  refine lv_iconst (v := 0) hx hb (gx_d (gq_ok oL_guess 15 (.iconst 0) rfl) rfl rfl) (by decide) ?_
  exact gl_iret hx hb hr hlocks hw2 hp hlen rfl (Nat.le_of_eq (Nat.zero_add _)) (Nat.le_of_eq (Nat.zero_add _)) (gx_d (gq_ok oL_guess 16 (.ireturn) rfl) rfl rfl)
set_option maxHeartbeats 2000000 in
theorem w_guess_x {l : Launch} {D : va_G} {cy : Nat → ClassId} {sa : Nat → Nat} {sv : Nat} {ws0 : List Cond} {tb : String → gz_T} (K : gl_K l D cy sa sv ws0 tb) (hV : gx_lV ws0 RL 38 (yX12_guess, cX12_guess, 4, (some .int)) 1) (hcl : Cond.classLink RL 19 "java/lang/IllegalArgumentException" ∈ ws0) {sh : gz_Sh} {h : gz_H} (a1 : Int) (T : gk_T9 ws0 tb (yX12_guess, cX12_guess, 4, (some .int)) [.inr (.inr (some 0)), .inl a1] sh h px_IAE) (hS : sh[0]? = some (false, 12, 17)) (sz ou : Nat) (g : Nat → Int64) (L : List Nat) (hL : L.length = sh.length) : vx_Met l yL_guess (Cond.codeWith yL_guess cL_guess 4 (some .int) [(0, 9, 12, 19)] :: ws0) (gz_rm 101 1 6) (gl_Pc D cy sa sv [.ref (gz_al sa L 0), .int (Int32.ofInt a1), .ref ou] sz (gp_ou cy ou g :: va_pl L (gz_f cy sa L sh h))) (gl_Q D cy sa (va_A (gp_ou cy ou g :: va_pl L (gz_f cy sa L sh h)) sz) ou L 1 sh h (fun _ => True)) gl_No 1 6 (va_A (gp_ou cy ou g :: va_pl L (gz_f cy sa L sh h)) sz) := by
  refine vx_ofWH (cc := cL_guess) (maxL := 4) (ret := (some .int)) (by decide) rfl ?_
  intro p e s9 m args below meth c s₁ B hml hv
  obtain ⟨rfl, hsz, hG, hX, hP, hD0⟩ := hv
  have hx := B.exec
  have hb := B.bytes
  have hr := B.returns
  have hts := atoms_spec (ws := Cond.codeWith yL_guess cL_guess 4 (some .int) [(0, 9, 12, 19)] :: ws0) B.pre
  have hpp := fun (w : Cond) (h : w ∈ ws0) => hts w (List.mem_cons_of_mem _ h)
  have hown : s9.vm.findClass RL = some m.cls := findClass_of_methodNamed B.named
  have hlocks := B.notSynchronized
  have htab : tw_tab c [(0, 9, 12, 19)] := by
    obtain ⟨m', meth', c', h0', h1', h2', -, -, h5', -⟩ := Cond.codeWith_spec (hts (.codeWith yL_guess cL_guess 4 (some .int) [(0, 9, 12, 19)]) List.mem_cons_self)
    cases B.named.symm.trans h0'
    cases B.method.symm.trans h1'
    cases (Stand.of_body B).code.symm.trans h2'
    exact h5'
  have hw := gl_start (sv := sv) hsz hP hD0
  have hl := lv_entry ([.ref (gz_al sa L 0), .int (Int32.ofInt a1), .ref ou]) (n := 4) (Nat.le_of_ble_eq_true rfl)
  rw [lg_entry_eq]
  generalize (lg_sl ([.ref (gz_al sa L 0), .int (Int32.ofInt a1), .ref ou]) ++ List.replicate (4 - (lg_sl ([.ref (gz_al sa L 0), .int (Int32.ofInt a1), .ref ou])).length) Slot.unset).toArray = ls at hl ⊢
  have hl : lv_has ls 4 [(0, .ref (gz_al sa L 0)), (1, .int (Int32.ofInt a1)), (2, .ref ou)] := hl
  refine lv_aload_n hx hb (gx_d (gq_ok oL_guess 0 (.aload_n 2) rfl) rfl rfl) rfl (lv_at hl 2 rfl) ?_
  refine lv_iconst (v := 0) hx hb (gx_d (gq_ok oL_guess 1 (.iconst 0) rfl) rfl rfl) (by decide) ?_
  refine lv_aload_n hx hb (gx_d (gq_ok oL_guess 2 (.aload_n 0) rfl) rfl rfl) rfl (lv_at hl 0 rfl) ?_
  refine lv_iload_n hx hb (gx_d (gq_ok oL_guess 3 (.iload_n 1) rfl) rfl rfl) rfl (lv_at hl 1 rfl) ?_
  refine gl_xcallV (own := RL) (As := [.inl a1]) (rest := [.int 0, .ref ou]) (ci := 12) K hx hb hml hpp hown hG hX hV rfl hS T hL hl.1 ⟨Nat.le_refl _, Nat.le_refl _⟩ ⟨Nat.le_of_eq (Nat.zero_add _), Nat.le_of_eq (Nat.zero_add _)⟩ (Nat.le_of_ble_eq_true rfl) (gp_W.comm (w1 := [gp_ou cy ou g]) hw) (gx_d (gq_ok oL_guess 4 (.invokevirtual 38) rfl) rfl rfl) (fun Lₚ ce q9 H1 locs1 hp hlen hw1 hce hcv hcf => ?_)
  have hw1 := hw1.comm
  refine vx_catch1 (C := px_IAE) (name := "java/lang/IllegalArgumentException") htab hown (by decide) (by decide) (hpp _ hcl) (va_Nw.use rfl hX.1.2.1.1) hce hcv hcf ?_
  refine lv_astore_n (lv' := (3, .ref q9) :: [(0, .ref (gz_al sa L 0)), (1, .int (Int32.ofInt a1)), (2, .ref ou)]) hx hb (gx_d (gq_ok oL_guess 12 (.astore_n 3) rfl) rfl rfl) rfl hl (by decide) rfl (fun ls hl => ?_)
  refine lv_iconst (v := 1) hx hb (gx_d (gq_ok oL_guess 13 (.iconst 1) rfl) rfl rfl) (by decide) ?_
  exact gl_iret hx hb hr hlocks hw1 hp hlen trivial (Nat.le_of_eq (Nat.zero_add _)) (Nat.le_of_eq (Nat.zero_add _)) (gx_d (gq_ok oL_guess 14 (.ireturn) rfl) rfl rfl)
set_option maxHeartbeats 2000000 in
theorem w_guessed_n {l : Launch} {D : va_G} {cy : Nat → ClassId} {sa : Nat → Nat} {sv : Nat} {ws0 : List Cond} {tb : String → gz_T} (K : gl_K l D cy sa sv ws0 tb) (hV : gx_lV ws0 RL 41 (yX12_guessed, cX12_guessed, 3, (some .int)) 2) {sh : gz_Sh} {h : gz_H} (a1 : Int)  (a2 : Int) {shₚ : gz_Sh} {hₚ : gz_H} {a s : Nat} (z : Int) (E : gz_Ev ws0 tb 100 (yX12_guessed, cX12_guessed, 3, (some .int)) [.inr (.inr (some 0)), .inl a1, .inl a2] sh h (some (.inl z)) shₚ hₚ a s) (hS : sh[0]? = some (false, 12, 17)) (sz ou : Nat) (g : Nat → Int64) (L : List Nat) (hL : L.length = sh.length) : vx_Met l yL_guessed (Cond.codeWith yL_guessed cL_guessed 5 (some .int) [(0, 10, 13, 19)] :: ws0) (gz_rm 101 a s) (gl_Pc D cy sa sv [.ref (gz_al sa L 0), .int (Int32.ofInt a1), .int (Int32.ofInt a2), .ref ou] sz (gp_ou cy ou g :: va_pl L (gz_f cy sa L sh h))) (gl_Q D cy sa (va_A (gp_ou cy ou g :: va_pl L (gz_f cy sa L sh h)) sz) ou L 0 shₚ hₚ (fun gₚ => gₚ 0 = (Int32.ofInt z).toInt64)) gl_No a s (va_A (gp_ou cy ou g :: va_pl L (gz_f cy sa L sh h)) sz) := by
  refine vx_ofWH (cc := cL_guessed) (maxL := 5) (ret := (some .int)) (by decide) rfl ?_
  intro p e s9 m args below meth c s₁ B hml hv
  obtain ⟨rfl, hsz, hG, hX, hP, hD0⟩ := hv
  have hx := B.exec
  have hb := B.bytes
  have hr := B.returns
  have hts := atoms_spec (ws := Cond.codeWith yL_guessed cL_guessed 5 (some .int) [(0, 10, 13, 19)] :: ws0) B.pre
  have hpp := fun (w : Cond) (h : w ∈ ws0) => hts w (List.mem_cons_of_mem _ h)
  have hown : s9.vm.findClass RL = some m.cls := findClass_of_methodNamed B.named
  have hlocks := B.notSynchronized
  have hw := gl_start (sv := sv) hsz hP hD0
  have hl := lv_entry ([.ref (gz_al sa L 0), .int (Int32.ofInt a1), .int (Int32.ofInt a2), .ref ou]) (n := 5) (Nat.le_of_ble_eq_true rfl)
  rw [lg_entry_eq]
  generalize (lg_sl ([.ref (gz_al sa L 0), .int (Int32.ofInt a1), .int (Int32.ofInt a2), .ref ou]) ++ List.replicate (5 - (lg_sl ([.ref (gz_al sa L 0), .int (Int32.ofInt a1), .int (Int32.ofInt a2), .ref ou])).length) Slot.unset).toArray = ls at hl ⊢
  have hl : lv_has ls 5 [(0, .ref (gz_al sa L 0)), (1, .int (Int32.ofInt a1)), (2, .int (Int32.ofInt a2)), (3, .ref ou)] := hl
  refine lv_aload_n hx hb (gx_d (gq_ok oL_guessed 0 (.aload_n 3) rfl) rfl rfl) rfl (lv_at hl 3 rfl) ?_
  refine lv_iconst (v := 0) hx hb (gx_d (gq_ok oL_guessed 1 (.iconst 0) rfl) rfl rfl) (by decide) ?_
  refine lv_aload_n hx hb (gx_d (gq_ok oL_guessed 2 (.aload_n 0) rfl) rfl rfl) rfl (lv_at hl 0 rfl) ?_
  refine lv_iload_n hx hb (gx_d (gq_ok oL_guessed 3 (.iload_n 1) rfl) rfl rfl) rfl (lv_at hl 1 rfl) ?_
  refine lv_iload_n hx hb (gx_d (gq_ok oL_guessed 4 (.iload_n 2) rfl) rfl rfl) rfl (lv_at hl 2 rfl) ?_
  refine gl_callV (own := RL) (As := [.inl a1, .inl a2]) (rest := [.int 0, .ref ou]) (ci := 12) K hx hb hml hpp hown hG hX hV rfl hS E hL hl.1 ⟨Nat.le_refl _, Nat.le_refl _⟩ ⟨Nat.le_of_eq (Nat.zero_add _), Nat.le_of_eq (Nat.zero_add _)⟩ (Nat.le_of_ble_eq_true rfl) (gp_W.comm (w1 := [gp_ou cy ou g]) hw) (gx_d (gq_ok oL_guessed 5 (.invokevirtual 41) rfl) rfl rfl) (fun Lₚ H1 locs1 hp hlen hw1 => ?_)
  have hw1 := hw1.comm
  show W _ _ _ _ _ _ _ _ _ _ _ _ _ _ _ (F0 m 8 ls [.int (Int32.ofInt z), .int 0, .ref ou])
  refine lv_i2l (v := (Int32.ofInt z).toInt64) hx hb (gx_d (gq_ok oL_guessed 8 (.i2l) rfl) rfl rfl) rfl ?_
  refine gp_last hx hb hG hw1 (gx_d (gq_ok oL_guessed 9 (.lastore) rfl) rfl rfl) (fun H2 locs2 hw2 => ?_)
  refine lv_goto (tgt := 17) hx hb (gx_d (gq_ok oL_guessed 10 (.goto 7) rfl) rfl rfl) (by decide) ?_
  refine lv_iconst (v := 0) hx hb (gx_d (gq_ok oL_guessed 17 (.iconst 0) rfl) rfl rfl) (by decide) ?_
  exact gl_iret hx hb hr hlocks hw2 hp hlen rfl (Nat.le_of_eq (Nat.zero_add _)) (Nat.le_of_eq (Nat.zero_add _)) (gx_d (gq_ok oL_guessed 18 (.ireturn) rfl) rfl rfl)
set_option maxHeartbeats 2000000 in
theorem w_guessed_x {l : Launch} {D : va_G} {cy : Nat → ClassId} {sa : Nat → Nat} {sv : Nat} {ws0 : List Cond} {tb : String → gz_T} (K : gl_K l D cy sa sv ws0 tb) (hV : gx_lV ws0 RL 41 (yX12_guessed, cX12_guessed, 3, (some .int)) 2) (hcl : Cond.classLink RL 19 "java/lang/IllegalArgumentException" ∈ ws0) {sh : gz_Sh} {h : gz_H} (a1 : Int)  (a2 : Int) (T : gk_T9 ws0 tb (yX12_guessed, cX12_guessed, 3, (some .int)) [.inr (.inr (some 0)), .inl a1, .inl a2] sh h px_IAE) (hS : sh[0]? = some (false, 12, 17)) (sz ou : Nat) (g : Nat → Int64) (L : List Nat) (hL : L.length = sh.length) : vx_Met l yL_guessed (Cond.codeWith yL_guessed cL_guessed 5 (some .int) [(0, 10, 13, 19)] :: ws0) (gz_rm 101 1 6) (gl_Pc D cy sa sv [.ref (gz_al sa L 0), .int (Int32.ofInt a1), .int (Int32.ofInt a2), .ref ou] sz (gp_ou cy ou g :: va_pl L (gz_f cy sa L sh h))) (gl_Q D cy sa (va_A (gp_ou cy ou g :: va_pl L (gz_f cy sa L sh h)) sz) ou L 1 sh h (fun _ => True)) gl_No 1 6 (va_A (gp_ou cy ou g :: va_pl L (gz_f cy sa L sh h)) sz) := by
  refine vx_ofWH (cc := cL_guessed) (maxL := 5) (ret := (some .int)) (by decide) rfl ?_
  intro p e s9 m args below meth c s₁ B hml hv
  obtain ⟨rfl, hsz, hG, hX, hP, hD0⟩ := hv
  have hx := B.exec
  have hb := B.bytes
  have hr := B.returns
  have hts := atoms_spec (ws := Cond.codeWith yL_guessed cL_guessed 5 (some .int) [(0, 10, 13, 19)] :: ws0) B.pre
  have hpp := fun (w : Cond) (h : w ∈ ws0) => hts w (List.mem_cons_of_mem _ h)
  have hown : s9.vm.findClass RL = some m.cls := findClass_of_methodNamed B.named
  have hlocks := B.notSynchronized
  have htab : tw_tab c [(0, 10, 13, 19)] := by
    obtain ⟨m', meth', c', h0', h1', h2', -, -, h5', -⟩ := Cond.codeWith_spec (hts (.codeWith yL_guessed cL_guessed 5 (some .int) [(0, 10, 13, 19)]) List.mem_cons_self)
    cases B.named.symm.trans h0'
    cases B.method.symm.trans h1'
    cases (Stand.of_body B).code.symm.trans h2'
    exact h5'
  have hw := gl_start (sv := sv) hsz hP hD0
  have hl := lv_entry ([.ref (gz_al sa L 0), .int (Int32.ofInt a1), .int (Int32.ofInt a2), .ref ou]) (n := 5) (Nat.le_of_ble_eq_true rfl)
  rw [lg_entry_eq]
  generalize (lg_sl ([.ref (gz_al sa L 0), .int (Int32.ofInt a1), .int (Int32.ofInt a2), .ref ou]) ++ List.replicate (5 - (lg_sl ([.ref (gz_al sa L 0), .int (Int32.ofInt a1), .int (Int32.ofInt a2), .ref ou])).length) Slot.unset).toArray = ls at hl ⊢
  have hl : lv_has ls 5 [(0, .ref (gz_al sa L 0)), (1, .int (Int32.ofInt a1)), (2, .int (Int32.ofInt a2)), (3, .ref ou)] := hl
  refine lv_aload_n hx hb (gx_d (gq_ok oL_guessed 0 (.aload_n 3) rfl) rfl rfl) rfl (lv_at hl 3 rfl) ?_
  refine lv_iconst (v := 0) hx hb (gx_d (gq_ok oL_guessed 1 (.iconst 0) rfl) rfl rfl) (by decide) ?_
  refine lv_aload_n hx hb (gx_d (gq_ok oL_guessed 2 (.aload_n 0) rfl) rfl rfl) rfl (lv_at hl 0 rfl) ?_
  refine lv_iload_n hx hb (gx_d (gq_ok oL_guessed 3 (.iload_n 1) rfl) rfl rfl) rfl (lv_at hl 1 rfl) ?_
  refine lv_iload_n hx hb (gx_d (gq_ok oL_guessed 4 (.iload_n 2) rfl) rfl rfl) rfl (lv_at hl 2 rfl) ?_
  refine gl_xcallV (own := RL) (As := [.inl a1, .inl a2]) (rest := [.int 0, .ref ou]) (ci := 12) K hx hb hml hpp hown hG hX hV rfl hS T hL hl.1 ⟨Nat.le_refl _, Nat.le_refl _⟩ ⟨Nat.le_of_eq (Nat.zero_add _), Nat.le_of_eq (Nat.zero_add _)⟩ (Nat.le_of_ble_eq_true rfl) (gp_W.comm (w1 := [gp_ou cy ou g]) hw) (gx_d (gq_ok oL_guessed 5 (.invokevirtual 41) rfl) rfl rfl) (fun Lₚ ce q9 H1 locs1 hp hlen hw1 hce hcv hcf => ?_)
  have hw1 := hw1.comm
  refine vx_catch1 (C := px_IAE) (name := "java/lang/IllegalArgumentException") htab hown (by decide) (by decide) (hpp _ hcl) (va_Nw.use rfl hX.1.2.1.1) hce hcv hcf ?_
  refine lv_astore (lv' := (4, .ref q9) :: [(0, .ref (gz_al sa L 0)), (1, .int (Int32.ofInt a1)), (2, .int (Int32.ofInt a2)), (3, .ref ou)]) hx hb (gx_d (gq_ok oL_guessed 13 (.astore 4) rfl) rfl rfl) hl (by decide) rfl (fun ls hl => ?_)
  refine lv_iconst (v := 1) hx hb (gx_d (gq_ok oL_guessed 15 (.iconst 1) rfl) rfl rfl) (by decide) ?_
  exact gl_iret hx hb hr hlocks hw1 hp hlen trivial (Nat.le_of_eq (Nat.zero_add _)) (Nat.le_of_eq (Nat.zero_add _)) (gx_d (gq_ok oL_guessed 16 (.ireturn) rfl) rfl rfl)
set_option maxHeartbeats 2000000 in
theorem w_parse_n {l : Launch} {D : va_G} {cy : Nat → ClassId} {sa : Nat → Nat} {sv : Nat} {ws0 : List Cond} {tb : String → gz_T} (K : gl_K l D cy sa sv ws0 tb) (hV : gx_lV ws0 RL 44 (yX12_parse, cX12_parse, 5, (some .int)) 2) {sh : gz_Sh} {h : gz_H} (a1 : Int)  (a2 : Int) {shₚ : gz_Sh} {hₚ : gz_H} {a s : Nat} (z : Int) (E : gz_Ev ws0 tb 100 (yX12_parse, cX12_parse, 5, (some .int)) [.inr (.inr (some 0)), .inl a1, .inl a2] sh h (some (.inl z)) shₚ hₚ a s) (hS : sh[0]? = some (false, 12, 17)) (sz ou : Nat) (g : Nat → Int64) (L : List Nat) (hL : L.length = sh.length) : vx_Met l yL_parse (Cond.codeWith yL_parse cL_parse 5 (some .int) [(0, 10, 13, 19)] :: ws0) (gz_rm 101 a s) (gl_Pc D cy sa sv [.ref (gz_al sa L 0), .int (Int32.ofInt a1), .int (Int32.ofInt a2), .ref ou] sz (gp_ou cy ou g :: va_pl L (gz_f cy sa L sh h))) (gl_Q D cy sa (va_A (gp_ou cy ou g :: va_pl L (gz_f cy sa L sh h)) sz) ou L 0 shₚ hₚ (fun gₚ => gₚ 0 = (Int32.ofInt z).toInt64)) gl_No a s (va_A (gp_ou cy ou g :: va_pl L (gz_f cy sa L sh h)) sz) := by
  refine vx_ofWH (cc := cL_parse) (maxL := 5) (ret := (some .int)) (by decide) rfl ?_
  intro p e s9 m args below meth c s₁ B hml hv
  obtain ⟨rfl, hsz, hG, hX, hP, hD0⟩ := hv
  have hx := B.exec
  have hb := B.bytes
  have hr := B.returns
  have hts := atoms_spec (ws := Cond.codeWith yL_parse cL_parse 5 (some .int) [(0, 10, 13, 19)] :: ws0) B.pre
  have hpp := fun (w : Cond) (h : w ∈ ws0) => hts w (List.mem_cons_of_mem _ h)
  have hown : s9.vm.findClass RL = some m.cls := findClass_of_methodNamed B.named
  have hlocks := B.notSynchronized
  have hw := gl_start (sv := sv) hsz hP hD0
  have hl := lv_entry ([.ref (gz_al sa L 0), .int (Int32.ofInt a1), .int (Int32.ofInt a2), .ref ou]) (n := 5) (Nat.le_of_ble_eq_true rfl)
  rw [lg_entry_eq]
  generalize (lg_sl ([.ref (gz_al sa L 0), .int (Int32.ofInt a1), .int (Int32.ofInt a2), .ref ou]) ++ List.replicate (5 - (lg_sl ([.ref (gz_al sa L 0), .int (Int32.ofInt a1), .int (Int32.ofInt a2), .ref ou])).length) Slot.unset).toArray = ls at hl ⊢
  have hl : lv_has ls 5 [(0, .ref (gz_al sa L 0)), (1, .int (Int32.ofInt a1)), (2, .int (Int32.ofInt a2)), (3, .ref ou)] := hl
  refine lv_aload_n hx hb (gx_d (gq_ok oL_parse 0 (.aload_n 3) rfl) rfl rfl) rfl (lv_at hl 3 rfl) ?_
  refine lv_iconst (v := 0) hx hb (gx_d (gq_ok oL_parse 1 (.iconst 0) rfl) rfl rfl) (by decide) ?_
  refine lv_aload_n hx hb (gx_d (gq_ok oL_parse 2 (.aload_n 0) rfl) rfl rfl) rfl (lv_at hl 0 rfl) ?_
  refine lv_iload_n hx hb (gx_d (gq_ok oL_parse 3 (.iload_n 1) rfl) rfl rfl) rfl (lv_at hl 1 rfl) ?_
  refine lv_iload_n hx hb (gx_d (gq_ok oL_parse 4 (.iload_n 2) rfl) rfl rfl) rfl (lv_at hl 2 rfl) ?_
  refine gl_callV (own := RL) (As := [.inl a1, .inl a2]) (rest := [.int 0, .ref ou]) (ci := 12) K hx hb hml hpp hown hG hX hV rfl hS E hL hl.1 ⟨Nat.le_refl _, Nat.le_refl _⟩ ⟨Nat.le_of_eq (Nat.zero_add _), Nat.le_of_eq (Nat.zero_add _)⟩ (Nat.le_of_ble_eq_true rfl) (gp_W.comm (w1 := [gp_ou cy ou g]) hw) (gx_d (gq_ok oL_parse 5 (.invokevirtual 44) rfl) rfl rfl) (fun Lₚ H1 locs1 hp hlen hw1 => ?_)
  have hw1 := hw1.comm
  show W _ _ _ _ _ _ _ _ _ _ _ _ _ _ _ (F0 m 8 ls [.int (Int32.ofInt z), .int 0, .ref ou])
  refine lv_i2l (v := (Int32.ofInt z).toInt64) hx hb (gx_d (gq_ok oL_parse 8 (.i2l) rfl) rfl rfl) rfl ?_
  refine gp_last hx hb hG hw1 (gx_d (gq_ok oL_parse 9 (.lastore) rfl) rfl rfl) (fun H2 locs2 hw2 => ?_)
  refine lv_goto (tgt := 17) hx hb (gx_d (gq_ok oL_parse 10 (.goto 7) rfl) rfl rfl) (by decide) ?_
  refine lv_iconst (v := 0) hx hb (gx_d (gq_ok oL_parse 17 (.iconst 0) rfl) rfl rfl) (by decide) ?_
  exact gl_iret hx hb hr hlocks hw2 hp hlen rfl (Nat.le_of_eq (Nat.zero_add _)) (Nat.le_of_eq (Nat.zero_add _)) (gx_d (gq_ok oL_parse 18 (.ireturn) rfl) rfl rfl)
set_option maxHeartbeats 2000000 in
theorem w_parse_x {l : Launch} {D : va_G} {cy : Nat → ClassId} {sa : Nat → Nat} {sv : Nat} {ws0 : List Cond} {tb : String → gz_T} (K : gl_K l D cy sa sv ws0 tb) (hV : gx_lV ws0 RL 44 (yX12_parse, cX12_parse, 5, (some .int)) 2) (hcl : Cond.classLink RL 19 "java/lang/IllegalArgumentException" ∈ ws0) {sh : gz_Sh} {h : gz_H} (a1 : Int)  (a2 : Int) (T : gk_T9 ws0 tb (yX12_parse, cX12_parse, 5, (some .int)) [.inr (.inr (some 0)), .inl a1, .inl a2] sh h px_IAE) (hS : sh[0]? = some (false, 12, 17)) (sz ou : Nat) (g : Nat → Int64) (L : List Nat) (hL : L.length = sh.length) : vx_Met l yL_parse (Cond.codeWith yL_parse cL_parse 5 (some .int) [(0, 10, 13, 19)] :: ws0) (gz_rm 101 1 6) (gl_Pc D cy sa sv [.ref (gz_al sa L 0), .int (Int32.ofInt a1), .int (Int32.ofInt a2), .ref ou] sz (gp_ou cy ou g :: va_pl L (gz_f cy sa L sh h))) (gl_Q D cy sa (va_A (gp_ou cy ou g :: va_pl L (gz_f cy sa L sh h)) sz) ou L 1 sh h (fun _ => True)) gl_No 1 6 (va_A (gp_ou cy ou g :: va_pl L (gz_f cy sa L sh h)) sz) := by
  refine vx_ofWH (cc := cL_parse) (maxL := 5) (ret := (some .int)) (by decide) rfl ?_
  intro p e s9 m args below meth c s₁ B hml hv
  obtain ⟨rfl, hsz, hG, hX, hP, hD0⟩ := hv
  have hx := B.exec
  have hb := B.bytes
  have hr := B.returns
  have hts := atoms_spec (ws := Cond.codeWith yL_parse cL_parse 5 (some .int) [(0, 10, 13, 19)] :: ws0) B.pre
  have hpp := fun (w : Cond) (h : w ∈ ws0) => hts w (List.mem_cons_of_mem _ h)
  have hown : s9.vm.findClass RL = some m.cls := findClass_of_methodNamed B.named
  have hlocks := B.notSynchronized
  have htab : tw_tab c [(0, 10, 13, 19)] := by
    obtain ⟨m', meth', c', h0', h1', h2', -, -, h5', -⟩ := Cond.codeWith_spec (hts (.codeWith yL_parse cL_parse 5 (some .int) [(0, 10, 13, 19)]) List.mem_cons_self)
    cases B.named.symm.trans h0'
    cases B.method.symm.trans h1'
    cases (Stand.of_body B).code.symm.trans h2'
    exact h5'
  have hw := gl_start (sv := sv) hsz hP hD0
  have hl := lv_entry ([.ref (gz_al sa L 0), .int (Int32.ofInt a1), .int (Int32.ofInt a2), .ref ou]) (n := 5) (Nat.le_of_ble_eq_true rfl)
  rw [lg_entry_eq]
  generalize (lg_sl ([.ref (gz_al sa L 0), .int (Int32.ofInt a1), .int (Int32.ofInt a2), .ref ou]) ++ List.replicate (5 - (lg_sl ([.ref (gz_al sa L 0), .int (Int32.ofInt a1), .int (Int32.ofInt a2), .ref ou])).length) Slot.unset).toArray = ls at hl ⊢
  have hl : lv_has ls 5 [(0, .ref (gz_al sa L 0)), (1, .int (Int32.ofInt a1)), (2, .int (Int32.ofInt a2)), (3, .ref ou)] := hl
  refine lv_aload_n hx hb (gx_d (gq_ok oL_parse 0 (.aload_n 3) rfl) rfl rfl) rfl (lv_at hl 3 rfl) ?_
  refine lv_iconst (v := 0) hx hb (gx_d (gq_ok oL_parse 1 (.iconst 0) rfl) rfl rfl) (by decide) ?_
  refine lv_aload_n hx hb (gx_d (gq_ok oL_parse 2 (.aload_n 0) rfl) rfl rfl) rfl (lv_at hl 0 rfl) ?_
  refine lv_iload_n hx hb (gx_d (gq_ok oL_parse 3 (.iload_n 1) rfl) rfl rfl) rfl (lv_at hl 1 rfl) ?_
  refine lv_iload_n hx hb (gx_d (gq_ok oL_parse 4 (.iload_n 2) rfl) rfl rfl) rfl (lv_at hl 2 rfl) ?_
  refine gl_xcallV (own := RL) (As := [.inl a1, .inl a2]) (rest := [.int 0, .ref ou]) (ci := 12) K hx hb hml hpp hown hG hX hV rfl hS T hL hl.1 ⟨Nat.le_refl _, Nat.le_refl _⟩ ⟨Nat.le_of_eq (Nat.zero_add _), Nat.le_of_eq (Nat.zero_add _)⟩ (Nat.le_of_ble_eq_true rfl) (gp_W.comm (w1 := [gp_ou cy ou g]) hw) (gx_d (gq_ok oL_parse 5 (.invokevirtual 44) rfl) rfl rfl) (fun Lₚ ce q9 H1 locs1 hp hlen hw1 hce hcv hcf => ?_)
  have hw1 := hw1.comm
  refine vx_catch1 (C := px_IAE) (name := "java/lang/IllegalArgumentException") htab hown (by decide) (by decide) (hpp _ hcl) (va_Nw.use rfl hX.1.2.1.1) hce hcv hcf ?_
  refine lv_astore (lv' := (4, .ref q9) :: [(0, .ref (gz_al sa L 0)), (1, .int (Int32.ofInt a1)), (2, .int (Int32.ofInt a2)), (3, .ref ou)]) hx hb (gx_d (gq_ok oL_parse 13 (.astore 4) rfl) rfl rfl) hl (by decide) rfl (fun ls hl => ?_)
  refine lv_iconst (v := 1) hx hb (gx_d (gq_ok oL_parse 15 (.iconst 1) rfl) rfl rfl) (by decide) ?_
  exact gl_iret hx hb hr hlocks hw1 hp hlen trivial (Nat.le_of_eq (Nat.zero_add _)) (Nat.le_of_eq (Nat.zero_add _)) (gx_d (gq_ok oL_parse 16 (.ireturn) rfl) rfl rfl)
set_option maxHeartbeats 2000000 in
theorem w_bar_n {l : Launch} {D : va_G} {cy : Nat → ClassId} {sa : Nat → Nat} {sv : Nat} {ws0 : List Cond} {tb : String → gz_T} (K : gl_K l D cy sa sv ws0 tb) (hV : gx_lV ws0 RL 47 (yX12_bar, cX12_bar, 3, (some .long)) 2) {sh : gz_Sh} {h : gz_H} (a1 : Int)  (a2 : Int) {shₚ : gz_Sh} {hₚ : gz_H} {a s : Nat} (z : Int64) (E : gz_Ev ws0 tb 100 (yX12_bar, cX12_bar, 3, (some .long)) [.inr (.inr (some 0)), .inl a1, .inl a2] sh h (some (.inr (.inl z))) shₚ hₚ a s) (hS : sh[0]? = some (false, 12, 17)) (sz ou : Nat) (g : Nat → Int64) (L : List Nat) (hL : L.length = sh.length) : vx_Met l yL_bar (Cond.codeWith yL_bar cL_bar 5 (some .int) [(0, 9, 12, 19)] :: ws0) (gz_rm 101 a s) (gl_Pc D cy sa sv [.ref (gz_al sa L 0), .int (Int32.ofInt a1), .int (Int32.ofInt a2), .ref ou] sz (gp_ou cy ou g :: va_pl L (gz_f cy sa L sh h))) (gl_Q D cy sa (va_A (gp_ou cy ou g :: va_pl L (gz_f cy sa L sh h)) sz) ou L 0 shₚ hₚ (fun gₚ => gₚ 0 = z)) gl_No a s (va_A (gp_ou cy ou g :: va_pl L (gz_f cy sa L sh h)) sz) := by
  refine vx_ofWH (cc := cL_bar) (maxL := 5) (ret := (some .int)) (by decide) rfl ?_
  intro p e s9 m args below meth c s₁ B hml hv
  obtain ⟨rfl, hsz, hG, hX, hP, hD0⟩ := hv
  have hx := B.exec
  have hb := B.bytes
  have hr := B.returns
  have hts := atoms_spec (ws := Cond.codeWith yL_bar cL_bar 5 (some .int) [(0, 9, 12, 19)] :: ws0) B.pre
  have hpp := fun (w : Cond) (h : w ∈ ws0) => hts w (List.mem_cons_of_mem _ h)
  have hown : s9.vm.findClass RL = some m.cls := findClass_of_methodNamed B.named
  have hlocks := B.notSynchronized
  have hw := gl_start (sv := sv) hsz hP hD0
  have hl := lv_entry ([.ref (gz_al sa L 0), .int (Int32.ofInt a1), .int (Int32.ofInt a2), .ref ou]) (n := 5) (Nat.le_of_ble_eq_true rfl)
  rw [lg_entry_eq]
  generalize (lg_sl ([.ref (gz_al sa L 0), .int (Int32.ofInt a1), .int (Int32.ofInt a2), .ref ou]) ++ List.replicate (5 - (lg_sl ([.ref (gz_al sa L 0), .int (Int32.ofInt a1), .int (Int32.ofInt a2), .ref ou])).length) Slot.unset).toArray = ls at hl ⊢
  have hl : lv_has ls 5 [(0, .ref (gz_al sa L 0)), (1, .int (Int32.ofInt a1)), (2, .int (Int32.ofInt a2)), (3, .ref ou)] := hl
  refine lv_aload_n hx hb (gx_d (gq_ok oL_bar 0 (.aload_n 3) rfl) rfl rfl) rfl (lv_at hl 3 rfl) ?_
  refine lv_iconst (v := 0) hx hb (gx_d (gq_ok oL_bar 1 (.iconst 0) rfl) rfl rfl) (by decide) ?_
  refine lv_aload_n hx hb (gx_d (gq_ok oL_bar 2 (.aload_n 0) rfl) rfl rfl) rfl (lv_at hl 0 rfl) ?_
  refine lv_iload_n hx hb (gx_d (gq_ok oL_bar 3 (.iload_n 1) rfl) rfl rfl) rfl (lv_at hl 1 rfl) ?_
  refine lv_iload_n hx hb (gx_d (gq_ok oL_bar 4 (.iload_n 2) rfl) rfl rfl) rfl (lv_at hl 2 rfl) ?_
  refine gl_callV (own := RL) (As := [.inl a1, .inl a2]) (rest := [.int 0, .ref ou]) (ci := 12) K hx hb hml hpp hown hG hX hV rfl hS E hL hl.1 ⟨Nat.le_refl _, Nat.le_refl _⟩ ⟨Nat.le_of_eq (Nat.zero_add _), Nat.le_of_eq (Nat.zero_add _)⟩ (Nat.le_of_ble_eq_true rfl) (gp_W.comm (w1 := [gp_ou cy ou g]) hw) (gx_d (gq_ok oL_bar 5 (.invokevirtual 47) rfl) rfl rfl) (fun Lₚ H1 locs1 hp hlen hw1 => ?_)
  have hw1 := hw1.comm
  show W _ _ _ _ _ _ _ _ _ _ _ _ _ _ _ (F0 m 8 ls [.long z, .int 0, .ref ou])
  refine gp_last hx hb hG hw1 (gx_d (gq_ok oL_bar 8 (.lastore) rfl) rfl rfl) (fun H2 locs2 hw2 => ?_)
  refine lv_goto (tgt := 16) hx hb (gx_d (gq_ok oL_bar 9 (.goto 7) rfl) rfl rfl) (by decide) ?_
  refine lv_iconst (v := 0) hx hb (gx_d (gq_ok oL_bar 16 (.iconst 0) rfl) rfl rfl) (by decide) ?_
  exact gl_iret hx hb hr hlocks hw2 hp hlen rfl (Nat.le_of_eq (Nat.zero_add _)) (Nat.le_of_eq (Nat.zero_add _)) (gx_d (gq_ok oL_bar 17 (.ireturn) rfl) rfl rfl)
set_option maxHeartbeats 2000000 in
theorem w_bar_x {l : Launch} {D : va_G} {cy : Nat → ClassId} {sa : Nat → Nat} {sv : Nat} {ws0 : List Cond} {tb : String → gz_T} (K : gl_K l D cy sa sv ws0 tb) (hV : gx_lV ws0 RL 47 (yX12_bar, cX12_bar, 3, (some .long)) 2) (hcl : Cond.classLink RL 19 "java/lang/IllegalArgumentException" ∈ ws0) {sh : gz_Sh} {h : gz_H} (a1 : Int)  (a2 : Int) (T : gk_T9 ws0 tb (yX12_bar, cX12_bar, 3, (some .long)) [.inr (.inr (some 0)), .inl a1, .inl a2] sh h px_IAE) (hS : sh[0]? = some (false, 12, 17)) (sz ou : Nat) (g : Nat → Int64) (L : List Nat) (hL : L.length = sh.length) : vx_Met l yL_bar (Cond.codeWith yL_bar cL_bar 5 (some .int) [(0, 9, 12, 19)] :: ws0) (gz_rm 101 1 6) (gl_Pc D cy sa sv [.ref (gz_al sa L 0), .int (Int32.ofInt a1), .int (Int32.ofInt a2), .ref ou] sz (gp_ou cy ou g :: va_pl L (gz_f cy sa L sh h))) (gl_Q D cy sa (va_A (gp_ou cy ou g :: va_pl L (gz_f cy sa L sh h)) sz) ou L 1 sh h (fun _ => True)) gl_No 1 6 (va_A (gp_ou cy ou g :: va_pl L (gz_f cy sa L sh h)) sz) := by
  refine vx_ofWH (cc := cL_bar) (maxL := 5) (ret := (some .int)) (by decide) rfl ?_
  intro p e s9 m args below meth c s₁ B hml hv
  obtain ⟨rfl, hsz, hG, hX, hP, hD0⟩ := hv
  have hx := B.exec
  have hb := B.bytes
  have hr := B.returns
  have hts := atoms_spec (ws := Cond.codeWith yL_bar cL_bar 5 (some .int) [(0, 9, 12, 19)] :: ws0) B.pre
  have hpp := fun (w : Cond) (h : w ∈ ws0) => hts w (List.mem_cons_of_mem _ h)
  have hown : s9.vm.findClass RL = some m.cls := findClass_of_methodNamed B.named
  have hlocks := B.notSynchronized
  have htab : tw_tab c [(0, 9, 12, 19)] := by
    obtain ⟨m', meth', c', h0', h1', h2', -, -, h5', -⟩ := Cond.codeWith_spec (hts (.codeWith yL_bar cL_bar 5 (some .int) [(0, 9, 12, 19)]) List.mem_cons_self)
    cases B.named.symm.trans h0'
    cases B.method.symm.trans h1'
    cases (Stand.of_body B).code.symm.trans h2'
    exact h5'
  have hw := gl_start (sv := sv) hsz hP hD0
  have hl := lv_entry ([.ref (gz_al sa L 0), .int (Int32.ofInt a1), .int (Int32.ofInt a2), .ref ou]) (n := 5) (Nat.le_of_ble_eq_true rfl)
  rw [lg_entry_eq]
  generalize (lg_sl ([.ref (gz_al sa L 0), .int (Int32.ofInt a1), .int (Int32.ofInt a2), .ref ou]) ++ List.replicate (5 - (lg_sl ([.ref (gz_al sa L 0), .int (Int32.ofInt a1), .int (Int32.ofInt a2), .ref ou])).length) Slot.unset).toArray = ls at hl ⊢
  have hl : lv_has ls 5 [(0, .ref (gz_al sa L 0)), (1, .int (Int32.ofInt a1)), (2, .int (Int32.ofInt a2)), (3, .ref ou)] := hl
  refine lv_aload_n hx hb (gx_d (gq_ok oL_bar 0 (.aload_n 3) rfl) rfl rfl) rfl (lv_at hl 3 rfl) ?_
  refine lv_iconst (v := 0) hx hb (gx_d (gq_ok oL_bar 1 (.iconst 0) rfl) rfl rfl) (by decide) ?_
  refine lv_aload_n hx hb (gx_d (gq_ok oL_bar 2 (.aload_n 0) rfl) rfl rfl) rfl (lv_at hl 0 rfl) ?_
  refine lv_iload_n hx hb (gx_d (gq_ok oL_bar 3 (.iload_n 1) rfl) rfl rfl) rfl (lv_at hl 1 rfl) ?_
  refine lv_iload_n hx hb (gx_d (gq_ok oL_bar 4 (.iload_n 2) rfl) rfl rfl) rfl (lv_at hl 2 rfl) ?_
  refine gl_xcallV (own := RL) (As := [.inl a1, .inl a2]) (rest := [.int 0, .ref ou]) (ci := 12) K hx hb hml hpp hown hG hX hV rfl hS T hL hl.1 ⟨Nat.le_refl _, Nat.le_refl _⟩ ⟨Nat.le_of_eq (Nat.zero_add _), Nat.le_of_eq (Nat.zero_add _)⟩ (Nat.le_of_ble_eq_true rfl) (gp_W.comm (w1 := [gp_ou cy ou g]) hw) (gx_d (gq_ok oL_bar 5 (.invokevirtual 47) rfl) rfl rfl) (fun Lₚ ce q9 H1 locs1 hp hlen hw1 hce hcv hcf => ?_)
  have hw1 := hw1.comm
  refine vx_catch1 (C := px_IAE) (name := "java/lang/IllegalArgumentException") htab hown (by decide) (by decide) (hpp _ hcl) (va_Nw.use rfl hX.1.2.1.1) hce hcv hcf ?_
  refine lv_astore (lv' := (4, .ref q9) :: [(0, .ref (gz_al sa L 0)), (1, .int (Int32.ofInt a1)), (2, .int (Int32.ofInt a2)), (3, .ref ou)]) hx hb (gx_d (gq_ok oL_bar 12 (.astore 4) rfl) rfl rfl) hl (by decide) rfl (fun ls hl => ?_)
  refine lv_iconst (v := 1) hx hb (gx_d (gq_ok oL_bar 14 (.iconst 1) rfl) rfl rfl) (by decide) ?_
  exact gl_iret hx hb hr hlocks hw1 hp hlen trivial (Nat.le_of_eq (Nat.zero_add _)) (Nat.le_of_eq (Nat.zero_add _)) (gx_d (gq_ok oL_bar 15 (.ireturn) rfl) rfl rfl)
set_option maxHeartbeats 2000000 in
theorem w_reading_n {l : Launch} {D : va_G} {cy : Nat → ClassId} {sa : Nat → Nat} {sv : Nat} {ws0 : List Cond} {tb : String → gz_T} (K : gl_K l D cy sa sv ws0 tb) (hV : gx_lV ws0 RL 51 (yX12_reading, cX12_reading, 4, (some .int)) 2) {sh : gz_Sh} {h : gz_H} (a1 : Int)  (a2 : Int) {shₚ : gz_Sh} {hₚ : gz_H} {a s : Nat} (z : Int) (E : gz_Ev ws0 tb 100 (yX12_reading, cX12_reading, 4, (some .int)) [.inr (.inr (some 0)), .inl a1, .inl a2] sh h (some (.inl z)) shₚ hₚ a s) (hS : sh[0]? = some (false, 12, 17)) (sz ou : Nat) (g : Nat → Int64) (L : List Nat) (hL : L.length = sh.length) : vx_Met l yL_reading (Cond.codeWith yL_reading cL_reading 5 (some .int) [(0, 10, 13, 19)] :: ws0) (gz_rm 101 a s) (gl_Pc D cy sa sv [.ref (gz_al sa L 0), .int (Int32.ofInt a1), .int (Int32.ofInt a2), .ref ou] sz (gp_ou cy ou g :: va_pl L (gz_f cy sa L sh h))) (gl_Q D cy sa (va_A (gp_ou cy ou g :: va_pl L (gz_f cy sa L sh h)) sz) ou L 0 shₚ hₚ (fun gₚ => gₚ 0 = (Int32.ofInt z).toInt64)) gl_No a s (va_A (gp_ou cy ou g :: va_pl L (gz_f cy sa L sh h)) sz) := by
  refine vx_ofWH (cc := cL_reading) (maxL := 5) (ret := (some .int)) (by decide) rfl ?_
  intro p e s9 m args below meth c s₁ B hml hv
  obtain ⟨rfl, hsz, hG, hX, hP, hD0⟩ := hv
  have hx := B.exec
  have hb := B.bytes
  have hr := B.returns
  have hts := atoms_spec (ws := Cond.codeWith yL_reading cL_reading 5 (some .int) [(0, 10, 13, 19)] :: ws0) B.pre
  have hpp := fun (w : Cond) (h : w ∈ ws0) => hts w (List.mem_cons_of_mem _ h)
  have hown : s9.vm.findClass RL = some m.cls := findClass_of_methodNamed B.named
  have hlocks := B.notSynchronized
  have hw := gl_start (sv := sv) hsz hP hD0
  have hl := lv_entry ([.ref (gz_al sa L 0), .int (Int32.ofInt a1), .int (Int32.ofInt a2), .ref ou]) (n := 5) (Nat.le_of_ble_eq_true rfl)
  rw [lg_entry_eq]
  generalize (lg_sl ([.ref (gz_al sa L 0), .int (Int32.ofInt a1), .int (Int32.ofInt a2), .ref ou]) ++ List.replicate (5 - (lg_sl ([.ref (gz_al sa L 0), .int (Int32.ofInt a1), .int (Int32.ofInt a2), .ref ou])).length) Slot.unset).toArray = ls at hl ⊢
  have hl : lv_has ls 5 [(0, .ref (gz_al sa L 0)), (1, .int (Int32.ofInt a1)), (2, .int (Int32.ofInt a2)), (3, .ref ou)] := hl
  refine lv_aload_n hx hb (gx_d (gq_ok oL_reading 0 (.aload_n 3) rfl) rfl rfl) rfl (lv_at hl 3 rfl) ?_
  refine lv_iconst (v := 0) hx hb (gx_d (gq_ok oL_reading 1 (.iconst 0) rfl) rfl rfl) (by decide) ?_
  refine lv_aload_n hx hb (gx_d (gq_ok oL_reading 2 (.aload_n 0) rfl) rfl rfl) rfl (lv_at hl 0 rfl) ?_
  refine lv_iload_n hx hb (gx_d (gq_ok oL_reading 3 (.iload_n 1) rfl) rfl rfl) rfl (lv_at hl 1 rfl) ?_
  refine lv_iload_n hx hb (gx_d (gq_ok oL_reading 4 (.iload_n 2) rfl) rfl rfl) rfl (lv_at hl 2 rfl) ?_
  refine gl_callV (own := RL) (As := [.inl a1, .inl a2]) (rest := [.int 0, .ref ou]) (ci := 12) K hx hb hml hpp hown hG hX hV rfl hS E hL hl.1 ⟨Nat.le_refl _, Nat.le_refl _⟩ ⟨Nat.le_of_eq (Nat.zero_add _), Nat.le_of_eq (Nat.zero_add _)⟩ (Nat.le_of_ble_eq_true rfl) (gp_W.comm (w1 := [gp_ou cy ou g]) hw) (gx_d (gq_ok oL_reading 5 (.invokevirtual 51) rfl) rfl rfl) (fun Lₚ H1 locs1 hp hlen hw1 => ?_)
  have hw1 := hw1.comm
  show W _ _ _ _ _ _ _ _ _ _ _ _ _ _ _ (F0 m 8 ls [.int (Int32.ofInt z), .int 0, .ref ou])
  refine lv_i2l (v := (Int32.ofInt z).toInt64) hx hb (gx_d (gq_ok oL_reading 8 (.i2l) rfl) rfl rfl) rfl ?_
  refine gp_last hx hb hG hw1 (gx_d (gq_ok oL_reading 9 (.lastore) rfl) rfl rfl) (fun H2 locs2 hw2 => ?_)
  refine lv_goto (tgt := 17) hx hb (gx_d (gq_ok oL_reading 10 (.goto 7) rfl) rfl rfl) (by decide) ?_
  refine lv_iconst (v := 0) hx hb (gx_d (gq_ok oL_reading 17 (.iconst 0) rfl) rfl rfl) (by decide) ?_
  exact gl_iret hx hb hr hlocks hw2 hp hlen rfl (Nat.le_of_eq (Nat.zero_add _)) (Nat.le_of_eq (Nat.zero_add _)) (gx_d (gq_ok oL_reading 18 (.ireturn) rfl) rfl rfl)
set_option maxHeartbeats 2000000 in
theorem w_reading_x {l : Launch} {D : va_G} {cy : Nat → ClassId} {sa : Nat → Nat} {sv : Nat} {ws0 : List Cond} {tb : String → gz_T} (K : gl_K l D cy sa sv ws0 tb) (hV : gx_lV ws0 RL 51 (yX12_reading, cX12_reading, 4, (some .int)) 2) (hcl : Cond.classLink RL 19 "java/lang/IllegalArgumentException" ∈ ws0) {sh : gz_Sh} {h : gz_H} (a1 : Int)  (a2 : Int) (T : gk_T9 ws0 tb (yX12_reading, cX12_reading, 4, (some .int)) [.inr (.inr (some 0)), .inl a1, .inl a2] sh h px_IAE) (hS : sh[0]? = some (false, 12, 17)) (sz ou : Nat) (g : Nat → Int64) (L : List Nat) (hL : L.length = sh.length) : vx_Met l yL_reading (Cond.codeWith yL_reading cL_reading 5 (some .int) [(0, 10, 13, 19)] :: ws0) (gz_rm 101 1 6) (gl_Pc D cy sa sv [.ref (gz_al sa L 0), .int (Int32.ofInt a1), .int (Int32.ofInt a2), .ref ou] sz (gp_ou cy ou g :: va_pl L (gz_f cy sa L sh h))) (gl_Q D cy sa (va_A (gp_ou cy ou g :: va_pl L (gz_f cy sa L sh h)) sz) ou L 1 sh h (fun _ => True)) gl_No 1 6 (va_A (gp_ou cy ou g :: va_pl L (gz_f cy sa L sh h)) sz) := by
  refine vx_ofWH (cc := cL_reading) (maxL := 5) (ret := (some .int)) (by decide) rfl ?_
  intro p e s9 m args below meth c s₁ B hml hv
  obtain ⟨rfl, hsz, hG, hX, hP, hD0⟩ := hv
  have hx := B.exec
  have hb := B.bytes
  have hr := B.returns
  have hts := atoms_spec (ws := Cond.codeWith yL_reading cL_reading 5 (some .int) [(0, 10, 13, 19)] :: ws0) B.pre
  have hpp := fun (w : Cond) (h : w ∈ ws0) => hts w (List.mem_cons_of_mem _ h)
  have hown : s9.vm.findClass RL = some m.cls := findClass_of_methodNamed B.named
  have hlocks := B.notSynchronized
  have htab : tw_tab c [(0, 10, 13, 19)] := by
    obtain ⟨m', meth', c', h0', h1', h2', -, -, h5', -⟩ := Cond.codeWith_spec (hts (.codeWith yL_reading cL_reading 5 (some .int) [(0, 10, 13, 19)]) List.mem_cons_self)
    cases B.named.symm.trans h0'
    cases B.method.symm.trans h1'
    cases (Stand.of_body B).code.symm.trans h2'
    exact h5'
  have hw := gl_start (sv := sv) hsz hP hD0
  have hl := lv_entry ([.ref (gz_al sa L 0), .int (Int32.ofInt a1), .int (Int32.ofInt a2), .ref ou]) (n := 5) (Nat.le_of_ble_eq_true rfl)
  rw [lg_entry_eq]
  generalize (lg_sl ([.ref (gz_al sa L 0), .int (Int32.ofInt a1), .int (Int32.ofInt a2), .ref ou]) ++ List.replicate (5 - (lg_sl ([.ref (gz_al sa L 0), .int (Int32.ofInt a1), .int (Int32.ofInt a2), .ref ou])).length) Slot.unset).toArray = ls at hl ⊢
  have hl : lv_has ls 5 [(0, .ref (gz_al sa L 0)), (1, .int (Int32.ofInt a1)), (2, .int (Int32.ofInt a2)), (3, .ref ou)] := hl
  refine lv_aload_n hx hb (gx_d (gq_ok oL_reading 0 (.aload_n 3) rfl) rfl rfl) rfl (lv_at hl 3 rfl) ?_
  refine lv_iconst (v := 0) hx hb (gx_d (gq_ok oL_reading 1 (.iconst 0) rfl) rfl rfl) (by decide) ?_
  refine lv_aload_n hx hb (gx_d (gq_ok oL_reading 2 (.aload_n 0) rfl) rfl rfl) rfl (lv_at hl 0 rfl) ?_
  refine lv_iload_n hx hb (gx_d (gq_ok oL_reading 3 (.iload_n 1) rfl) rfl rfl) rfl (lv_at hl 1 rfl) ?_
  refine lv_iload_n hx hb (gx_d (gq_ok oL_reading 4 (.iload_n 2) rfl) rfl rfl) rfl (lv_at hl 2 rfl) ?_
  refine gl_xcallV (own := RL) (As := [.inl a1, .inl a2]) (rest := [.int 0, .ref ou]) (ci := 12) K hx hb hml hpp hown hG hX hV rfl hS T hL hl.1 ⟨Nat.le_refl _, Nat.le_refl _⟩ ⟨Nat.le_of_eq (Nat.zero_add _), Nat.le_of_eq (Nat.zero_add _)⟩ (Nat.le_of_ble_eq_true rfl) (gp_W.comm (w1 := [gp_ou cy ou g]) hw) (gx_d (gq_ok oL_reading 5 (.invokevirtual 51) rfl) rfl rfl) (fun Lₚ ce q9 H1 locs1 hp hlen hw1 hce hcv hcf => ?_)
  have hw1 := hw1.comm
  refine vx_catch1 (C := px_IAE) (name := "java/lang/IllegalArgumentException") htab hown (by decide) (by decide) (hpp _ hcl) (va_Nw.use rfl hX.1.2.1.1) hce hcv hcf ?_
  refine lv_astore (lv' := (4, .ref q9) :: [(0, .ref (gz_al sa L 0)), (1, .int (Int32.ofInt a1)), (2, .int (Int32.ofInt a2)), (3, .ref ou)]) hx hb (gx_d (gq_ok oL_reading 13 (.astore 4) rfl) rfl rfl) hl (by decide) rfl (fun ls hl => ?_)
  refine lv_iconst (v := 1) hx hb (gx_d (gq_ok oL_reading 15 (.iconst 1) rfl) rfl rfl) (by decide) ?_
  exact gl_iret hx hb hr hlocks hw1 hp hlen trivial (Nat.le_of_eq (Nat.zero_add _)) (Nat.le_of_eq (Nat.zero_add _)) (gx_d (gq_ok oL_reading 16 (.ireturn) rfl) rfl rfl)
