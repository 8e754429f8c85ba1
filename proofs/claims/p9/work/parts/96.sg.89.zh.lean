/-! RUNS THAT END IN A THROW: a run up to 'new Illegal..', or up to a call that throws; and the contract out of such a run. -/
/-- a throw stands here: new, dup, the text, the constructor, athrow -/
def gt_at (cc : ByteArray) (pc : Nat) (E : String) : Prop :=
  ∃ (ik ic is : Nat) (tx : String), ((ik = 115 ∧ ic = 119 ∧ E = px_IAE) ∨ (ik = 104 ∧ ic = 108 ∧ E = px_ISE)) ∧ (is, tx) ∈ px_strs ∧ gx_dec cc pc (.new ik) ∧ gx_dec cc (pc + 3) .dup ∧
    ((gx_dec cc (pc + 4) (.ldc is) ∧ gx_dec cc (pc + 6) (.invokespecial ic) ∧ gx_dec cc (pc + 9) .athrow) ∨ (gx_dec cc (pc + 4) (.ldc_w is) ∧ gx_dec cc (pc + 7) (.invokespecial ic) ∧ gx_dec cc (pc + 10) .athrow))
abbrev gt_K : Type := gx_M → List gz_V → gz_Sh → gz_H → String → gz_Sh → gz_H → Nat → Nat → Prop
/-- how a run ends in a throw -/
def gt_end (ws0 : List Cond) (own : String) (cc : ByteArray) (d : Nat) (K : gt_K) (u : gz_S) (E : String) (shₚ : gz_Sh) (hₚ : gz_H) (a s : Nat) : Prop :=
  (5 ≤ d ∧ gt_at cc u.1 E ∧ (u.2.2.1.map gz_c).sum ≤ 8 ∧ shₚ = u.2.2.2.1 ∧ hₚ = u.2.2.2.2 ∧ a = 1 ∧ s = 6) ∨
  (∃ (ix : Nat) (M : gx_M) (As : List gz_V) (b : Nat) (r : List gz_V) (ci n : Nat) (T9 : u_T) (n9 : Nat), gx_dec cc u.1 (.invokevirtual ix) ∧ u.2.2.1 = As.reverse ++ .inr (.inr (some b)) :: r ∧ b < 1000000 ∧ u.2.2.2.1[b]? = some (false, ci, n) ∧ vwCl[ci]? = some (M.1.cls, T9, n9) ∧ gx_lV ws0 own ix M As.length ∧ (r.map gz_c).sum ≤ 8 ∧ K M (.inr (.inr (some b)) :: As) u.2.2.2.1 u.2.2.2.2 E shₚ hₚ a s) ∨
  (∃ (ix : Nat) (M : gx_M) (As r : List gz_V), gx_dec cc u.1 (.invokestatic ix) ∧ u.2.2.1 = As.reverse ++ r ∧ gx_lS ws0 own ix M As.length ∧ (r.map gz_c).sum ≤ 8 ∧ K M As u.2.2.2.1 u.2.2.2.2 E shₚ hₚ a s)
/-- a method of the class's that throws E, with at most d methods open at once -/
def gt_Th (ws0 : List Cond) (tb : String → gz_T) : Nat → gt_K
  | 0 => fun _ _ _ _ _ _ _ _ _ => False
  | d + 1 => fun M av sh h E shₚ hₚ a s => (av.map gz_c).sum ≤ M.2.2.1 ∧ M.1.cls = RX12 ∧ ∃ (n : Nat) (u : gz_S) (a1 s1 a2 s2 : Nat), gz_to (gz_do ws0 M.1.cls (tb M.1.cls) M.2.1 M.2.2.1 (gz_Ev ws0 tb d)) n (0, gz_args 0 av, [], sh, h) u a1 s1 ∧ gt_end ws0 M.1.cls M.2.1 d (gt_Th ws0 tb d) u E shₚ hₚ a2 s2 ∧ a = a1 + a2 ∧ s = s1 + s2
def gt_Q (D : va_G) (cy : Nat → ClassId) (sa : Nat → Nat) (A : Nat → Prop) (L : List Nat) (E : String) (sh : gz_Sh) (h : gz_H) : String → State → State → Prop := fun E9 st t => (E9 = E ∧ ∃ Lₚ : List Nat, L <+: Lₚ ∧ Lₚ.length = sh.length ∧ pw_B D A (Lₚ, gz_f cy sa Lₚ sh h) t) ∧ va_F A st t
def gt_No : Array Value → State → Outcome → State → Prop := fun _ _ _ _ => False
def gt_Met (l : Launch) (D : va_G) (cy : Nat → ClassId) (sa : Nat → Nat) (sv : Nat) (ws0 : List Cond) (d : Nat) : gt_K := fun M av sh h E shₚ hₚ a s =>
  ∀ (sz : Nat) (L : List Nat), L.length = sh.length → vx_Met l M.1 (gx_code M :: ws0) (gz_rm d a s) (gz_Pc D cy sa sv (av.map (gz_r sa L)) sz L (gz_f cy sa L sh h)) gt_No (gt_Q D cy sa (pw_A L (gz_f cy sa L sh h) sz) L E shₚ hₚ) a s (pw_A L (gz_f cy sa L sh h) sz)
/-- the words of the throw of an IllegalStateException -/
def gt_atE : List Cond := vx_atS RX12 108 "java/lang/IllegalStateException" ["java/lang/RuntimeException", "java/lang/Exception"]
theorem gt_badE : ∀ w ∈ gt_atE.filter (fun w => !goodWord w), w ∈ [Cond.castable "java/lang/IllegalStateException" "java/lang/IllegalStateException", .declares ⟨"java/lang/RuntimeException", "<init>", "(Ljava/lang/String;)V"⟩, .declares ⟨"java/lang/Exception", "<init>", "(Ljava/lang/String;)V"⟩, .declares ⟨"java/lang/Throwable", "<init>", "(Ljava/lang/String;)V"⟩] := by decide +kernel
theorem gt_goodE : ∀ w ∈ Cond.classLink RX12 104 "java/lang/IllegalStateException" :: Cond.initialized "java/lang/IllegalStateException" :: gt_atE, vx_ot w = true := by decide +kernel
theorem gt_fitE : Bundle.fit "java/lang/IllegalStateException" = true := by decide +kernel
/-- the words that throws want -/
def gt_Wx (ws0 : List Cond) : Prop :=
  (Cond.classLink RX12 115 "java/lang/IllegalArgumentException" ∈ ws0 ∧ Cond.initialized "java/lang/IllegalArgumentException" ∈ ws0 ∧ ∀ w ∈ px_atI.filter goodWord, w ∈ ws0) ∧
  (Cond.classLink RX12 104 "java/lang/IllegalStateException" ∈ ws0 ∧ Cond.initialized "java/lang/IllegalStateException" ∈ ws0 ∧ ∀ w ∈ gt_atE.filter goodWord, w ∈ ws0)
section GT
variable {p : Program} {l : Launch} {e : Env} {R : Room} {s : State} {m : MethodId} {args : Array Value} {below : List Frame} {meth : Method} {c : Code} {H : Heap} {locs : List Loc} {cells slots : Nat}
variable {cc : ByteArray} {pc d a1 s1 mc ms sz : Nat} {ls : Array Slot} {D : va_G} {cy : Nat → ClassId} {sa : Nat → Nat} {L L0 : List Nat} {f0 : Nat → va_E} {sh shₚ : gz_Sh} {h hₚ : gz_H} {ws0 : List Cond} {own E : String}
theorem gt_hat {A : Nat → Prop} (hts : ∀ w ∈ ws0, w.before args s = true) (hat : ∀ w ∈ gt_atE.filter goodWord, w ∈ ws0) (hX : px_X sa A s s.heap) : ∀ w ∈ gt_atE, w.before args s = true :=
  vx_hat (fun w hw => hts w (hat w hw)) gt_badE (vx_c (va_Nw.use rfl hX.2.1.2.1) (vx_c (va_Nw.use rfl hX.2.1.2.2.1) (vx_c (va_Nw.use rfl hX.2.1.2.2.2.1) (vx_c (va_Nw.use rfl hX.2.1.2.2.2.2) vx_n))))
theorem gt_thrown (hp : L0 <+: L) (hL : L.length = sh.length) (hw : pw_W D (pw_A L0 f0 sz) s.heap L (gz_f cy sa L sh h) H locs) : ∀ t : State, s.vm.Alike t.vm → H.size ≤ t.heap.size → (∀ q : Nat, q < H.size → t.heap[q]? = H[q]?) → gt_Q D cy sa (pw_A L0 f0 sz) L0 E sh h E s t :=
  fun t _ hz hkk => ⟨⟨rfl, L, hp, hL, hw.1.kept (fun k q hq => hkk q.1 ((hw.1 k q hq).lt)), hw.2.1⟩, Nat.le_trans hw.2.2.1.1 hz, fun q h1 h2 => (hkk q (Nat.lt_of_lt_of_le h1 hw.2.2.1.1)).trans (hw.2.2.1.2.1 q h1 h2)⟩
theorem gt_sum (st : List gz_V) : ((st.map (gz_r sa L)).map fun v => v.category).sum = (st.map gz_c).sum := by
  rw [List.map_map]
  exact congrArg List.sum (List.map_congr_left (fun q _ => gz_c_ok sa L q))
theorem gt_site (hx : p.tables.exec = Jvm.exec) (hb : c.code = cc) (hl : l.stackTraces = false) (hts : ∀ w ∈ ws0, w.before args s = true) (hown : s.vm.findClass RX12 = some m.cls) (hwx : gt_Wx ws0) (hX : px_X sa (pw_A L0 f0 sz) s s.heap) (hat : gt_at cc pc E)
    (hp : L0 <+: L) (hL : L.length = sh.length) (hw : pw_W D (pw_A L0 f0 sz) s.heap L (gz_f cy sa L sh h) H locs) (hsize : ls.size = c.maxLocals) {st : List gz_V} (h8 : (st.map gz_c).sum ≤ 8)
    (hout : ∀ x ∈ c.exceptionTable.toList, False) (hRf : 5 < R.frames) (hRl : 90 ≤ R.locals) (hRc : cells + 1 ≤ R.cells) (hRs : slots + 6 ≤ R.slots) (hlocks : meth.locks = false) (hc : cells + 1 ≤ mc) (hs : slots + 6 ≤ ms) :
    W p l e R s m args below meth c H locs cells slots (vx_MQ below gt_No (gt_Q D cy sa (pw_A L0 f0 sz) L0 E sh h) args s mc ms (pw_A L0 f0 sz)) (F0 m pc ls (st.map (gz_r sa L))) := by
  have hRl9 : ((st.map (gz_r sa L)).map fun v => v.category).sum + 82 ≤ R.locals := by
    rw [gt_sum]
    omega
  obtain ⟨ik, ic, is, tx, hE, hst, d0, d3, hd⟩ := hat
  rcases hE with ⟨rfl, rfl, rfl⟩ | ⟨rfl, rfl, rfl⟩
  · rcases hd with ⟨d4, d6, d9⟩ | ⟨d4, d7, d10⟩
    · exact vx_throwS (cls := "java/lang/IllegalArgumentException") (names := ["java/lang/RuntimeException", "java/lang/Exception"]) hx hb hl hown px_fitI px_fitN (hts _ hwx.1.1) (hts _ hwx.1.2.1) (hX.1 _ hst) (px_hat hts hwx.1.2.2 hX) px_goodI hX.2.2.1 hX.2.2.2 hw.2.2.1 hsize (gx_d d0 rfl rfl) (gx_d d3 rfl rfl) (gx_d d4 rfl rfl) (gx_d d6 rfl rfl) (gx_d d9 rfl rfl) (fun x hx => (hout x hx).elim) hRf hRl9 hRc hRs hlocks (gt_thrown hp hL hw) hw.2.2.1.2.2 hc hs
    · exact vx_throwSW (cls := "java/lang/IllegalArgumentException") (names := ["java/lang/RuntimeException", "java/lang/Exception"]) hx hb hl hown px_fitI px_fitN (hts _ hwx.1.1) (hts _ hwx.1.2.1) (hX.1 _ hst) (px_hat hts hwx.1.2.2 hX) px_goodI hX.2.2.1 hX.2.2.2 hw.2.2.1 hsize (gx_d d0 rfl rfl) (gx_d d3 rfl rfl) (gx_d d4 rfl rfl) (gx_d d7 rfl rfl) (gx_d d10 rfl rfl) (fun x hx => (hout x hx).elim) hRf hRl9 hRc hRs hlocks (gt_thrown hp hL hw) hw.2.2.1.2.2 hc hs
  · rcases hd with ⟨d4, d6, d9⟩ | ⟨d4, d7, d10⟩
    · exact vx_throwS (cls := "java/lang/IllegalStateException") (names := ["java/lang/RuntimeException", "java/lang/Exception"]) hx hb hl hown gt_fitE px_fitN (hts _ hwx.2.1) (hts _ hwx.2.2.1) (hX.1 _ hst) (gt_hat hts hwx.2.2.2 hX) gt_goodE hX.2.2.1 hX.2.2.2 hw.2.2.1 hsize (gx_d d0 rfl rfl) (gx_d d3 rfl rfl) (gx_d d4 rfl rfl) (gx_d d6 rfl rfl) (gx_d d9 rfl rfl) (fun x hx => (hout x hx).elim) hRf hRl9 hRc hRs hlocks (gt_thrown hp hL hw) hw.2.2.1.2.2 hc hs
    · exact vx_throwSW (cls := "java/lang/IllegalStateException") (names := ["java/lang/RuntimeException", "java/lang/Exception"]) hx hb hl hown gt_fitE px_fitN (hts _ hwx.2.1) (hts _ hwx.2.2.1) (hX.1 _ hst) (gt_hat hts hwx.2.2.2 hX) gt_goodE hX.2.2.1 hX.2.2.2 hw.2.2.1 hsize (gx_d d0 rfl rfl) (gx_d d3 rfl rfl) (gx_d d4 rfl rfl) (gx_d d7 rfl rfl) (gx_d d10 rfl rfl) (fun x hx => (hout x hx).elim) hRf hRl9 hRc hRs hlocks (gt_thrown hp hL hw) hw.2.2.1.2.2 hc hs
/-- behind a call that throws -/
theorem gt_behind {st0 rest : List Value} (hp : L0 <+: L) (hw : pw_W D (pw_A L0 f0 sz) s.heap L (gz_f cy sa L sh h) H locs)
    (hr : vx_Run p l e R s m args below meth c H locs cells slots a1 s1 (F0 m pc ls st0) rest (fun _ _ _ => False) (gt_Q D cy sa (pw_A L (gz_f cy sa L sh h) H.size) L E shₚ hₚ) (pw_A L (gz_f cy sa L sh h) H.size))
    (hout : ∀ x ∈ c.exceptionTable.toList, False) (hlocks : meth.locks = false) (hc : cells + a1 ≤ mc) (hs : slots + s1 ≤ ms) :
    W p l e R s m args below meth c H locs cells slots (vx_MQ below gt_No (gt_Q D cy sa (pw_A L0 f0 sz) L0 E shₚ hₚ) args s mc ms (pw_A L0 f0 sz)) (F0 m pc ls st0) := by
  intro T hT X
  rcases hr T hT X with ⟨v, st₀, t, T', L1, h9, X', hL, e1, e2, hf, st⟩ | ⟨q, st₀, t, T', L1, E9, ce, h9, X', hL, e1, e2, ⟨⟨hE, Lₚ, hp1, hlen, hP1, hD1⟩, hF9⟩, hce, hcv, hcl, st⟩
  · exact hf.elim
  · obtain ⟨k1, k2, k3⟩ := vx_keep h9 e1 hw.2.2.1 (fun q _ h => pq_sub hw q h) (pq_sub hw) hL hF9
    rw [← e1] at hP1
    have hw9 : pw_W D (pw_A L0 f0 sz) s.heap Lₚ (gz_f cy sa Lₚ shₚ hₚ) T'.heap (locs ++ L1) := ⟨hP1, hD1.weaken (fun k q _ h => pq_sub hw q.1 h), k3, hw.2.2.2⟩
    have h8 : vx_W p l e R s m args below meth c T'.heap (locs ++ L1) (cells + a1) (slots + s1) (vx_MQ below gt_No (gt_Q D cy sa (pw_A L0 f0 sz) L0 E shₚ hₚ) args s mc ms (pw_A L0 f0 sz)) (F0 m pc ls rest) q :=
      vx_out (E := E9) (ce := ce) (fun x hx => (hout x hx).elim) hlocks (by rw [e1]; exact hce) hcv hcl (fun t ht hvm => ⟨⟨hE, Lₚ, hp.trans hp1, hlen, by rw [ht]; exact hw9.1, hw9.2.1⟩, hw9.2.2.1.F ht⟩) hw9.2.2.1.2.2 hc hs
    obtain ⟨t2, b1, b2⟩ := h8 T' rfl X'
    exact ⟨t2, st.trans b1, b2⟩
end GT
set_option maxHeartbeats 8000000 in
/-- a run that throws is a contract -/
theorem gt_met {l : Launch} {D : va_G} {cy : Nat → ClassId} {sa : Nat → Nat} {ws0 : List Cond} {tb : String → gz_T} (hg : ∀ w ∈ ws0, goodWord w = true) (hpl : ∀ y cc n ret, Cond.code y cc n ret ∈ ws0 → plainName y.cls = true → gz_ok ws0 y.cls (tb y.cls)) {sv : Nat} (hIx : ∀ (d : Nat) (sh : gz_Sh) (h : gz_H) (c : Int), 8 ≤ d → gz_R c → gz_Met l D cy sa sv ws0 (d + 1) gz_Mx [gz_sg, .inl c] sh h (some (.inl (gz_ixf c))) sh h 0 0) (hst : l.stackTraces = false) (hwx : gt_Wx ws0) : ∀ (d : Nat) (M : gx_M) (av : List gz_V) (sh : gz_Sh) (h : gz_H) (E : String) (shₚ : gz_Sh) (hₚ : gz_H) (a s : Nat), gx_code M ∈ ws0 → gt_Th ws0 tb d M av sh h E shₚ hₚ a s → gt_Met l D cy sa sv ws0 d M av sh h E shₚ hₚ a s
  | 0, _, _, _, _, _, _, _, _, _, _, h => h.elim
  | d + 1, M, av, sh, h, E, shₚ, hₚ, a, sl, hc, hE => fun sz L hL => by
    obtain ⟨hlen, hcls, n, u, a1, s1, a2, s2, hto, hend, rfl, rfl⟩ := hE
    have hpn : plainName M.1.cls = true := by rw [hcls]; decide
    refine vx_ofW (cc := M.2.1) (maxL := M.2.2.1) (ret := M.2.2.2) hpn rfl ?_
    intro p e s m args below meth c s₁ B hml hno hv
    obtain ⟨rfl, hsz, hG, hX, hP, hD0⟩ := hv
    have hts := atoms_spec (ws := gx_code M :: ws0) B.pre
    have hpp := fun (w : Cond) (h : w ∈ ws0) => hts w (List.mem_cons_of_mem _ h)
    have hown : s.vm.findClass M.1.cls = some m.cls := findClass_of_methodNamed B.named
    have hw := pw_start (cy := cy) hsz hP hD0
    have hl := lv_entry (av.map (gz_r sa L)) (n := M.2.2.1) (by rw [gz_sl_len]; exact hlen)
    rw [lg_entry_eq]
    generalize (lg_sl (av.map (gz_r sa L)) ++ List.replicate (M.2.2.1 - (lg_sl (av.map (gz_r sa L))).length) Slot.unset).toArray = ls at hl ⊢
    rw [gz_args_ok] at hl
    have h9 := gz_to_ok (l := l) (e := e) (below := below) (meth := meth) (R := (headSpec (gx_code M :: ws0) (gz_rm (d + 1) (a1 + a2) (s1 + s2))).room) (Q := vx_MQ below gt_No (gt_Q D cy sa (pw_A L (gz_f cy sa L sh h) sz) L E shₚ hₚ) (av.map (gz_r sa L)).toArray s (a1 + a2) (s1 + s2) (pw_A L (gz_f cy sa L sh h) sz)) (d := d) (K := gz_Ev ws0 tb d) hg B.exec B.bytes hml hpp hown hG (gz_ok_f (hpl _ _ _ _ hc hpn)) (fun q => by cases q) hX (fun M av sh h r shₚ hₚ a s h1 h2 => gz_met hg hpl hIx d M av sh h r shₚ hₚ a s h1 h2) ⟨Nat.le_refl _, Nat.le_refl _⟩ n (0, gz_args 0 av, [], sh, h) u 0 0 a1 s1 L ls s.heap [] hto ⟨by rw [Nat.zero_add]; exact Nat.le_add_right _ _, by rw [Nat.zero_add]; exact Nat.le_add_right _ _⟩ hL hl hw
    refine h9 (fun Lₚ ls1 H1 locs1 hp hL1 hl1 hw1 => ?_)
    rw [Nat.zero_add, Nat.zero_add]
    rcases hend with ⟨h5, hat, h8, rfl, rfl, rfl, rfl⟩ | ⟨ix, M1, As, b, r, ci, n1, T9, n9, hd, hst1, hb6, hsh, hcl, hV, h8, hk⟩ | ⟨ix, M1, As, r, hd, hst1, hV, h8, hk⟩
    · exact gt_site B.exec B.bytes hst hpp (by rw [← hcls]; exact hown) hwx hX.1 hat hp hL1 hw1 (hl1.1.trans hml.symm) h8 hno (by show 5 < d + 1; exact gz_m 0 (by omega)) (by show 90 ≤ 64 * (d + 1); exact gz_m 1 (by omega)) (Nat.le_refl _) (Nat.le_refl _) B.notSynchronized (Nat.le_refl _) (Nat.le_refl _)
    · have hrm : (gz_rm d a2 s2).frames + 1 ≤ (headSpec (gx_code M :: ws0) (gz_rm (d + 1) (a1 + a2) (s1 + s2))).room.frames ∧ 8 + (M1.2.2.1 + 11) + (gz_rm d a2 s2).locals ≤ (headSpec (gx_code M :: ws0) (gz_rm (d + 1) (a1 + a2) (s1 + s2))).room.locals := ⟨Nat.le_refl _, by have := hV.2.2.2.2.2.2; show 8 + (M1.2.2.1 + 11) + 64 * d ≤ 64 * (d + 1); exact gz_m 2 (by omega)⟩
      obtain ⟨hbL, hfb⟩ := gz_at (cy := cy) (sa := sa) (h := u.2.2.2.2) (pw_nd hw1) hL1 hsh hb6
      obtain ⟨k0, hk0⟩ := va_pl_get (X := []) (f := gz_f cy sa Lₚ u.2.2.2.1 u.2.2.2.2) hbL
      rw [hfb] at hk0
      have e1 : u.2.2.1.map (gz_r sa Lₚ) = (As.map (gz_r sa Lₚ)).reverse ++ Value.ref (gz_al sa Lₚ b) :: r.map (gz_r sa Lₚ) := by
        rw [hst1, List.map_append, List.map_reverse]
        rfl
      rw [e1]
      exact gt_behind hp hw1 (vx_runV (C := M1.1.cls) (As := As.map (gz_r sa Lₚ)) (rest := r.map (gz_r sa Lₚ)) (Ts := ws0) (own := M.1.cls) ⟨B.exec, B.bytes, hml, hown, hpp⟩ (gt_met hg hpl hIx hst hwx d M1 _ u.2.2.2.1 u.2.2.2.2 E shₚ hₚ a2 s2 hV.1 hk H1.size Lₚ hL1) (cwV As.length hpp (gx_gV hg hV) rfl rfl rfl ⟨rfl, hV.2.2.2.2.2.1⟩ hrm) ⟨gz_blind, va_recv hG.1 hw1.1 hcl hk0, gz_pre hG hX hw1⟩ rfl (by rw [List.length_map]) hl1.1 rfl (lv_room (by rw [gt_sum]; exact h8)) (gx_d hd rfl rfl) ⟨Nat.le_refl _, Nat.le_refl _⟩) hno B.notSynchronized (Nat.le_refl _) (Nat.le_refl _)
    · have hrm : (gz_rm d a2 s2).frames + 1 ≤ (headSpec (gx_code M :: ws0) (gz_rm (d + 1) (a1 + a2) (s1 + s2))).room.frames ∧ 8 + (M1.2.2.1 + 11) + (gz_rm d a2 s2).locals ≤ (headSpec (gx_code M :: ws0) (gz_rm (d + 1) (a1 + a2) (s1 + s2))).room.locals := ⟨Nat.le_refl _, by have := hV.2.2.2.2.2; show 8 + (M1.2.2.1 + 11) + 64 * d ≤ 64 * (d + 1); exact gz_m 3 (by omega)⟩
      have e1 : u.2.2.1.map (gz_r sa Lₚ) = (As.map (gz_r sa Lₚ)).reverse ++ r.map (gz_r sa Lₚ) := by
        rw [hst1, List.map_append, List.map_reverse]
      rw [e1]
      exact gt_behind hp hw1 (vx_runS (As := As.map (gz_r sa Lₚ)) (rest := r.map (gz_r sa Lₚ)) (Ts := ws0) (own := M.1.cls) ⟨B.exec, B.bytes, hml, hown, hpp⟩ (gt_met hg hpl hIx hst hwx d M1 _ u.2.2.2.1 u.2.2.2.2 E shₚ hₚ a2 s2 hV.1 hk H1.size Lₚ hL1) (va_cwS As.length hpp (gx_gS hg hV) rfl rfl rfl hV.2.2.2.2.1 hrm) ⟨gz_blind, gz_pre hG hX hw1⟩ rfl (by rw [List.length_map]) hl1.1 rfl (lv_room (by rw [gt_sum]; exact h8)) (gx_d hd rfl rfl) ⟨Nat.le_refl _, Nat.le_refl _⟩) hno B.notSynchronized (Nat.le_refl _) (Nat.le_refl _)
