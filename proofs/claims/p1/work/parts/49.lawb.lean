/-! THE LAW'S OWN BODY, behind its start. -/
def lc_K (p : Program) (l : Launch) (s : State) (m : MethodId) (meth : Method) (c : Code) (b : Nat) (xs : Nat → Int32) (D : va_G) (cy : Nat → ClassId) (sa : Nat → Nat) : Prop :=
  p.tables.exec = Jvm.exec ∧ c.code = code ∧ meth.sig.returnType = ret ∧ c.maxLocals = 8 ∧ s.vm.findClass RL = some m.cls ∧ (∀ w ∈ lw_tbl, w.before #[Value.ref b] s = true) ∧ va_X b 6 xs s s.heap ∧ b < s.heap.size ∧ meth.locks = false ∧ l.stackTraces = false ∧ pw_G D cy s ∧ px_X sa (fun q : Nat => s.heap.size ≤ q) s s.heap
theorem lc_cmp0 (x : Int64) : lg_cmp x x = 0 := by
  unfold lg_cmp
  rw [if_neg (by rw [gt_iff_lt, Int64.lt_iff_toInt_lt]; omega), if_pos rfl]
theorem c_X13_thrown (l : Launch) (D : va_G) (cy : Nat → ClassId) (sz : Nat) (L : List Nat) (f : Nat → va_E) (m0 : Nat) (F_m0 : List Value) (t : Int32) (hC : pq_C L f [(m0, .inr (13, F_m0))]) (E_m0 : pq_E 229 F_m0 [(0, .int t)]) : Met l yX13_thrown (Cond.code yX13_thrown cX13_thrown 1 (some .int) :: pp_ws) ({ frames := 0, cells := 0, slots := 0, locals := 0 }) (pw_Pc D cy [.ref m0] sz L f) (pq_Qi D sz L f [m0] (fun r cs1 => r = t ∧ cs1 = [(m0, .inr (13, F_m0))])) 0 0 (pw_A L f sz) := by
  refine Met.ofW (cc := cX13_thrown) (maxL := 1) (ret := (some .int)) (by decide) rfl ?_
  intro p e s m args below meth c s₁ B hml hv
  obtain ⟨rfl, hsz, hG, hP, hD0⟩ := hv
  have hx := B.exec
  have hb := B.bytes
  have hr := B.returns
  have hts := atoms_spec (ws := Cond.code yX13_thrown cX13_thrown 1 (some .int) :: pp_ws) B.pre
  have hpp := fun (w : Cond) (h : w ∈ pp_ws) => hts w (List.mem_cons_of_mem _ h)
  have hown : s.vm.findClass RX13 = some m.cls := findClass_of_methodNamed B.named
  have hlocks := B.notSynchronized
  have hw := pw_start (cy := cy) hsz hP hD0
  have hW := pq_start (as := [m0]) hw hC rfl
  have hl := lv_entry ([.ref m0]) (n := 1) (Nat.le_of_ble_eq_true rfl)
  rw [lg_entry_eq]
  generalize (lg_sl ([.ref m0]) ++ List.replicate (1 - (lg_sl ([.ref m0])).length) Slot.unset).toArray = ls at hl ⊢
  have hl : lv_has ls 1 [(0, .ref m0)] := hl
  refine lv_aload_n hx hb dX13_thrown_0 rfl (lv_at hl 0 rfl) ?_
  refine pq_get (own := RX13) (ci := 13) (C := RX13) (T := TX13) (N := 229) (k := 0) (v := .int t) hx hb hpp pi13 rfl hown hG hW 0 rfl E_m0 0 rfl (by decide) pp13 dX13_thrown_1 ?_
  exact pq_iret hx hb hr hlocks rfl hW ⟨rfl, rfl⟩ dX13_thrown_4
set_option maxHeartbeats 4000000 in
/-- behind a call: the script is at its end -/
theorem law_tail {p : Program} {l : Launch} {e : Env} {s : State} {m : MethodId} {below : List Frame} {meth : Method} {c : Code} {b : Nat} {xs : Nat → Int32} {D : va_G} {cy : Nat → ClassId} {sa : Nat → Nat} {H : Heap} {locs : List Loc} {ls : Array Slot} {cells slots : Nat} (K : lc_K p l s m meth c b xs D cy sa) (hl : lv_has ls 8 [(4, .int 0), (0, .ref b)]) (hS : va_S (fun q : Nat => s.heap.size ≤ q) s.heap H locs) (hc : cells ≤ 600002) (hs : slots ≤ 7302232) : W p l e room_1 s m #[Value.ref b] below meth c H locs cells slots (lw_Z below #[Value.ref b] s) (F0 m 1897 ls []) := by
  obtain ⟨hx, hb, hr, hml, hown, hts, hScr, hbl, hlocks, hst, hG, hX⟩ := K
  have hbA : ¬ (fun q : Nat => s.heap.size ≤ q) b := Nat.not_le.mpr hbl
  refine lv_iinc (v := 6) (lv' := [(4, .int 6), (0, .ref b)]) hx hb dL_law_1897 hl (k := 0) rfl (by decide) (by decide) rfl (fun ls hl => ?_)
  refine lv_goto (tgt := 23) hx hb dL_law_1900 (by decide) ?_
  refine lv_iload hx hb dL_law_23 (lv_at hl 0 rfl) ?_
  refine lv_aload_n hx hb dL_law_25 rfl (lv_at hl 1 rfl) ?_
  refine va_slen hx hb hScr hbl hbA hS dL_law_26 ?_
  refine pq_topi (y := 6) (by decide) ?_
  refine lv_bipush (v := 6) hx hb dL_law_27 (by decide) ?_
  refine lv_isub hx hb dL_law_29 ?_
  refine pq_topi (y := 0) (by decide) ?_
  refine lv_icmp_gt (tgt := 1903) hx hb dL_law_30 (by decide) (fun _ => ?_) (fun c9 => absurd (by decide) c9)
  refine lv_iconst (v := 1) hx hb dL_law_1903 (by decide) ?_
  refine va_forget (fun q hq => hS.2.2 q hq) ?_
  refine W.widen (k := 600002) (n := 7302232) hc hs ?_
  exact lw_ret hx hb hr hlocks dL_law_1904
