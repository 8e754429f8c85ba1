/-! WHAT THE CLASS THROWS: its texts, the words of the two exceptions that no list of words carries, Throwable's two statics. -/
def px_IAE : String := "java/lang/IllegalArgumentException"
def px_ISE : String := "java/lang/IllegalStateException"
def px_strs : List (Nat × String) := [(106, "the tape would be too long"), (117, "the tape has not so many bytes"), (143, "no such what"), (210, "no such word"), (216, "no such cell"), (240, "no such fun"), (298, "the collection is full"), (360, "no such tongue"), (362, "no such kind"), (364, "no such place")]
def px_X (sa : Nat → Nat) (A : Nat → Prop) (U : State) (H : Heap) : Prop :=
  (∀ x ∈ px_strs, vk_R RX12 x.1 x.2 (sa x.1) U) ∧
  (va_Nw (.castable "java/lang/IllegalArgumentException" "java/lang/IllegalArgumentException") U ∧ va_Nw (.castable "java/lang/IllegalStateException" "java/lang/IllegalStateException") U ∧
    va_Nw (.declares ⟨"java/lang/RuntimeException", "<init>", "(Ljava/lang/String;)V"⟩) U ∧ va_Nw (.declares ⟨"java/lang/Exception", "<init>", "(Ljava/lang/String;)V"⟩) U ∧ va_Nw (.declares ⟨"java/lang/Throwable", "<init>", "(Ljava/lang/String;)V"⟩) U) ∧
  vx_Zq Bundle.tN "UNASSIGNED_STACK" Bundle.steD A U H ∧ vx_Zq Bundle.tN "SUPPRESSED_SENTINEL" Bundle.listD A U H
theorem px_X.to {sa : Nat → Nat} {A A' : Nat → Prop} {s U : State} {H H1 : Heap} (hW : s.WarmedH U.vm) (hk : ∀ q : Nat, q < H.size → ¬ A q → H1[q]? = H[q]?) (hA : ∀ q, A' q → A q) (h : px_X sa A s H) : px_X sa A' U H1 :=
  ⟨fun x hx => (h.1 x hx).warm hW, ⟨va_Nw.warmC hW h.2.1.1, va_Nw.warmC hW h.2.1.2.1, va_Nw.warmD hW h.2.1.2.2.1, va_Nw.warmD hW h.2.1.2.2.2.1, va_Nw.warmD hW h.2.1.2.2.2.2⟩,
    ((h.2.2.1.moved hW.alike).kept hk).narrow hA, ((h.2.2.2.moved hW.alike).kept hk).narrow hA⟩
theorem px_X.same {sa : Nat → Nat} {A : Nat → Prop} {s U : State} {H : Heap} (hv : s.vm = U.vm) (h : px_X sa A s H) : px_X sa A U H := by
  have ha : s.vm.Alike U.vm := by rw [← hv]; exact Vm.Alike.refl s.vm
  exact ⟨fun x hx => (h.1 x hx).same hv.symm, ⟨va_Nw.same rfl hv h.2.1.1, va_Nw.same rfl hv h.2.1.2.1, va_Nw.same rfl hv h.2.1.2.2.1, va_Nw.same rfl hv h.2.1.2.2.2.1, va_Nw.same rfl hv h.2.1.2.2.2.2⟩, h.2.2.1.moved ha, h.2.2.2.moved ha⟩
/-- the start of a method that may throw -/
def px_Pc (D : va_G) (cy : Nat → ClassId) (sa : Nat → Nat) (av : List Value) (sz : Nat) (L : List Nat) (f : Nat → va_E) : Array Value → State → Prop :=
  va_Pc av (fun U => U.heap.size = sz ∧ pw_G D cy U ∧ px_X sa (pw_A L f sz) U U.heap ∧ va_P D vwCl (va_pl L f) U.heap ∧ va_D (fun _ => True) (va_pl L f))
theorem px_blind {D : va_G} {cy : Nat → ClassId} {sa : Nat → Nat} {av : List Value} {sz : Nat} {L : List Nat} {f : Nat → va_E} : FrameBlind (px_Pc D cy sa av sz L f) := by
  intro a U g mk q
  obtain ⟨q0, q1, qG, qX, qP, qD⟩ := q
  exact ⟨q0, q1, pw_G.same (s := U) (U := U.calling g mk a) rfl qG, px_X.same (s := U) (U := U.calling g mk a) rfl qX, qP, qD⟩
/-- where it throws: the class by its name, the pool as it stands then -/
def px_T (D : va_G) (A : Nat → Prop) (px : String → List Nat × (Nat → va_E) → Prop) : String → State → State → Prop := vx_X (fun _ : List Nat × (Nat → va_E) => True) (fun E u t => px E u ∧ pw_B D A u t) A
/-- the words of the throw of an IllegalArgumentException -/
def px_atI : List Cond := vx_atS RX12 119 "java/lang/IllegalArgumentException" ["java/lang/RuntimeException", "java/lang/Exception"]
theorem px_badI : ∀ w ∈ px_atI.filter (fun w => !goodWord w), w ∈ [Cond.castable "java/lang/IllegalArgumentException" "java/lang/IllegalArgumentException", .declares ⟨"java/lang/RuntimeException", "<init>", "(Ljava/lang/String;)V"⟩, .declares ⟨"java/lang/Exception", "<init>", "(Ljava/lang/String;)V"⟩, .declares ⟨"java/lang/Throwable", "<init>", "(Ljava/lang/String;)V"⟩] := by decide +kernel
theorem px_goodI : ∀ w ∈ Cond.classLink RX12 115 "java/lang/IllegalArgumentException" :: Cond.initialized "java/lang/IllegalArgumentException" :: px_atI, vx_ot w = true := by decide +kernel
theorem px_fitI : Bundle.fit "java/lang/IllegalArgumentException" = true := by decide +kernel
theorem px_fitN : ∀ n ∈ ["java/lang/RuntimeException", "java/lang/Exception"], Bundle.fit n = true := by decide +kernel
section PX
variable {p : Program} {l : Launch} {e : Env} {R : Room} {s : State} {m : MethodId} {args : Array Value} {below : List Frame} {meth : Method} {c : Code} {H : Heap} {locs : List Loc} {cells slots : Nat} {Q : State → Prop}
variable {D : va_G} {cy : Nat → ClassId} {sa : Nat → Nat} {sz : Nat} {L as : List Nat} {f f0 : Nat → va_E} {Qc : Array Value → State → Outcome → State → Prop} {XC : String → State → State → Prop} {PX : String → List (Nat × va_E) → Prop} {ls : Array Slot} {rest : List Value} {Ts : List Cond} {cs cs0 cs2 : List (Nat × va_E)} {cc : ByteArray} {pc : Nat} {A : Nat → Prop}
/-- where it throws: the class by its name, the cells then -/
def pq_T (D : va_G) (sz : Nat) (L : List Nat) (f : Nat → va_E) (as : List Nat) (PX : String → List (Nat × va_E) → Prop) : String → State → State → Prop := px_T D (pw_A L f sz) (fun E u => pq_S L f as (PX E) u)
theorem px_thrown (hW : pq_W D (pw_A L f0 sz) s.heap L f0 as cs H locs) {E : String} (hp : PX E cs) : ∃ f, pw_W D (pw_A L f0 sz) s.heap L f H locs ∧ (∀ t : State, s.vm.Alike t.vm → H.size ≤ t.heap.size → (∀ q : Nat, q < H.size → t.heap[q]? = H[q]?) → pq_T D sz L f0 as PX E s t) := by
  obtain ⟨f, hw, hS⟩ := pq_end (P := PX E) hW hp
  exact ⟨f, hw, fun t _ hz hkk => ⟨(L, f), trivial, ⟨hS, hw.1.kept (fun k q hq => hkk q.1 ((hw.1 k q hq).lt)), hw.2.1⟩, Nat.le_trans hw.2.2.1.1 hz, fun q h1 h2 => (hkk q (Nat.lt_of_lt_of_le h1 hw.2.2.1.1)).trans (hw.2.2.1.2.1 q h1 h2)⟩⟩
theorem px_hat (hts : ∀ w ∈ Ts, w.before args s = true) (hat : ∀ w ∈ px_atI.filter goodWord, w ∈ Ts) {A : Nat → Prop} (hX : px_X sa A s s.heap) : ∀ w ∈ px_atI, w.before args s = true :=
  vx_hat (fun w hw => hts w (hat w hw)) px_badI (vx_c (va_Nw.use rfl hX.2.1.1) (vx_c (va_Nw.use rfl hX.2.1.2.2.1) (vx_c (va_Nw.use rfl hX.2.1.2.2.2.1) (vx_c (va_Nw.use rfl hX.2.1.2.2.2.2) vx_n))))
/-- the class throws an IllegalArgumentException with a text -/
theorem px_throwI (hexec : p.tables.exec = Jvm.exec) (hb : c.code = cc) (hl : l.stackTraces = false) {text : String} {is mc ms : Nat} (hts : ∀ w ∈ Ts, w.before args s = true) (hown : s.vm.findClass RX12 = some m.cls)
    (hk : Cond.classLink RX12 115 "java/lang/IllegalArgumentException" ∈ Ts) (hini : Cond.initialized "java/lang/IllegalArgumentException" ∈ Ts) (hat : ∀ w ∈ px_atI.filter goodWord, w ∈ Ts) (hst : (is, text) ∈ px_strs)
    (hX : px_X sa (pw_A L f0 sz) s s.heap) (hW : pq_W D (pw_A L f0 sz) s.heap L f0 as cs H locs) (hp : PX px_IAE cs) (hsize : ls.size = c.maxLocals)
    (d0 : decode cc pc = .ok (.new 115, 3)) (d3 : decode cc (pc + 3) = .ok (.dup, 1)) (d4 : decode cc (pc + 4) = .ok (.ldc is, 2)) (d6 : decode cc (pc + 6) = .ok (.invokespecial 119, 3)) (d9 : decode cc (pc + 9) = .ok (.athrow, 1))
    (hout : ∀ x ∈ c.exceptionTable.toList, False) (hRframes : 5 < R.frames) (hRlocals : (rest.map fun v => v.category).sum + 82 ≤ R.locals) (hRcells : cells + 1 ≤ R.cells) (hRslots : slots + 6 ≤ R.slots) (hlocks : meth.locks = false) (hc : cells + 1 ≤ mc) (hs : slots + 6 ≤ ms) :
    W p l e R s m args below meth c H locs cells slots (vx_MQ below Qc (pq_T D sz L f0 as PX) args s mc ms (pw_A L f0 sz)) (F0 m pc ls rest) := by
  obtain ⟨f, hw, hT⟩ := px_thrown (PX := PX) hW hp
  exact vx_throwS (cls := "java/lang/IllegalArgumentException") (names := ["java/lang/RuntimeException", "java/lang/Exception"]) hexec hb hl hown px_fitI px_fitN (hts _ hk) (hts _ hini) (hX.1 _ hst) (px_hat hts hat hX) px_goodI hX.2.2.1 hX.2.2.2 hw.2.2.1 hsize d0 d3 d4 d6 d9 (fun x hx => (hout x hx).elim) hRframes hRlocals hRcells hRslots hlocks hT hw.2.2.1.2.2 hc hs
theorem px_throwIW (hexec : p.tables.exec = Jvm.exec) (hb : c.code = cc) (hl : l.stackTraces = false) {text : String} {is mc ms : Nat} (hts : ∀ w ∈ Ts, w.before args s = true) (hown : s.vm.findClass RX12 = some m.cls)
    (hk : Cond.classLink RX12 115 "java/lang/IllegalArgumentException" ∈ Ts) (hini : Cond.initialized "java/lang/IllegalArgumentException" ∈ Ts) (hat : ∀ w ∈ px_atI.filter goodWord, w ∈ Ts) (hst : (is, text) ∈ px_strs)
    (hX : px_X sa (pw_A L f0 sz) s s.heap) (hW : pq_W D (pw_A L f0 sz) s.heap L f0 as cs H locs) (hp : PX px_IAE cs) (hsize : ls.size = c.maxLocals)
    (d0 : decode cc pc = .ok (.new 115, 3)) (d3 : decode cc (pc + 3) = .ok (.dup, 1)) (d4 : decode cc (pc + 4) = .ok (.ldc_w is, 3)) (d7 : decode cc (pc + 7) = .ok (.invokespecial 119, 3)) (d10 : decode cc (pc + 10) = .ok (.athrow, 1))
    (hout : ∀ x ∈ c.exceptionTable.toList, False) (hRframes : 5 < R.frames) (hRlocals : (rest.map fun v => v.category).sum + 82 ≤ R.locals) (hRcells : cells + 1 ≤ R.cells) (hRslots : slots + 6 ≤ R.slots) (hlocks : meth.locks = false) (hc : cells + 1 ≤ mc) (hs : slots + 6 ≤ ms) :
    W p l e R s m args below meth c H locs cells slots (vx_MQ below Qc (pq_T D sz L f0 as PX) args s mc ms (pw_A L f0 sz)) (F0 m pc ls rest) := by
  obtain ⟨f, hw, hT⟩ := px_thrown (PX := PX) hW hp
  exact vx_throwSW (cls := "java/lang/IllegalArgumentException") (names := ["java/lang/RuntimeException", "java/lang/Exception"]) hexec hb hl hown px_fitI px_fitN (hts _ hk) (hts _ hini) (hX.1 _ hst) (px_hat hts hat hX) px_goodI hX.2.2.1 hX.2.2.2 hw.2.2.1 hsize d0 d3 d4 d7 d10 (fun x hx => (hout x hx).elim) hRframes hRlocals hRcells hRslots hlocks hT hw.2.2.1.2.2 hc hs
/-- a callee's exception goes on to the caller -/
theorem pq_out {E : String} {ce : Cell} {q : Addr} {mc ms : Nat} (hout : ∀ x ∈ c.exceptionTable.toList, False) (hlocks : meth.locks = false) (hcell : H[q]? = some ce) (hv : ce.vm = .none) (hcl : s.vm.findClass E = some ce.cls)
    (hW : pq_W D (pw_A L f0 sz) s.heap L f0 as cs H locs) (hp : PX E cs) (hc : cells ≤ mc) (hs : slots ≤ ms) :
    vx_W p l e R s m args below meth c H locs cells slots (vx_MQ below Qc (pq_T D sz L f0 as PX) args s mc ms (pw_A L f0 sz)) (F0 m pc ls rest) q := by
  obtain ⟨f, hw, hT⟩ := px_thrown (PX := PX) hW hp
  exact vx_out (fun x hx => (hout x hx).elim) hlocks hcell hv hcl (fun t ht hvm => hT t hvm (by rw [ht]; exact Nat.le_refl _) (fun q _ => by rw [ht])) hw.2.2.1.2.2 hc hs
/-- the ends of a method that may throw -/
theorem px_iret {P : Int32 → List (Nat × va_E) → Prop} {ty : FieldType} {mc ms : Nat} (hexec : p.tables.exec = Jvm.exec) (hb : c.code = cc) (hr : meth.sig.returnType = some ty) (hlocks : meth.locks = false) {x : Int32} (hn : narrow ty (.int x) = .int x) (hW : pq_W D (pw_A L f0 sz) s.heap L f0 as cs H locs) (hp : P x cs) (hc : cells ≤ mc) (hs : slots ≤ ms) (hdg : decode cc pc = .ok (.ireturn, 1)) :
    W p l e R s m args below meth c H locs cells slots (vx_MQ below (pq_Qi D sz L f0 as P) XC args s mc ms (pw_A L f0 sz)) (F0 m pc ls [.int x]) := vx_ret (W.widen hc hs (pq_iret hexec hb hr hlocks hn hW hp hdg))
theorem px_vret {P : List (Nat × va_E) → Prop} {mc ms : Nat} (hexec : p.tables.exec = Jvm.exec) (hb : c.code = cc) (hr : meth.sig.returnType = none) (hlocks : meth.locks = false) (hW : pq_W D (pw_A L f0 sz) s.heap L f0 as cs H locs) (hp : P cs) (hc : cells ≤ mc) (hs : slots ≤ ms) (hdg : decode cc pc = .ok (.return_, 1)) :
    W p l e R s m args below meth c H locs cells slots (vx_MQ below (pq_Qv D sz L f0 as P) XC args s mc ms (pw_A L f0 sz)) (F0 m pc ls []) := vx_ret (W.widen hc hs (pq_vret hexec hb hr hlocks hW hp hdg))
/-- what a callee that may throw asks of its caller's pool -/
theorem pq_xpre {av : List Value} (hG : pw_G D cy s) (hX : px_X sa A s s.heap) (hw : pw_W D A s.heap L f H locs) : ∀ U : State, U.heap = H → s.WarmedH U.vm → px_Pc D cy sa av H.size L f av.toArray U := fun U hU hW => by
  refine ⟨rfl, by rw [hU], hG.warm hW, ?_, by rw [hU]; exact hw.1, hw.2.1.weaken (fun _ _ _ _ => trivial)⟩
  refine hX.to hW (fun q h1 h2 => by rw [hU]; exact hw.2.2.1.2.1 q h1 h2) (fun q h => ?_)
  rcases h with ⟨k, e1, h⟩ | h
  · exact hw.2.1.2 k _ h
  · exact hw.2.2.2 q (Nat.le_trans hw.2.2.1.1 h)
theorem pq_xpreS {av : List Value} (hG : pw_G D cy s) (hX : px_X sa A s s.heap) (hw : pw_W D A s.heap L f H locs) : PreS s H (px_Pc D cy sa av H.size L f) av := ⟨px_blind, pq_xpre hG hX hw⟩
theorem pq_xpreV {C : String} {T : u_T} {N ci b j : Nat} {fs : List Value} {As : List Value} (hG : pw_G D cy s) (hX : px_X sa A s s.heap) (hw : pw_W D A s.heap L f H locs) (hC : pq_C L f cs) (hj : cs[j]? = some (b, .inr (ci, fs))) (hc : vwCl[ci]? = some (C, T, N)) : PreV s H C b (px_Pc D cy sa (.ref b :: As) H.size L f) As := by
  obtain ⟨k0, hk0⟩ := va_pl_get (X := []) (f := f) (hC.at hj).1
  rw [(hC.at hj).2] at hk0
  exact ⟨px_blind, va_recv hG.1 hw.1 hc hk0, pq_xpre hG hX hw⟩
theorem pq_sub (hw : pw_W D A s.heap L f H locs) : ∀ q, pw_A L f H.size q → A q := fun q h => by
  rcases h with ⟨k, e1, h⟩ | h
  · exact hw.2.1.2 k _ h
  · exact hw.2.2.2 q (Nat.le_trans hw.2.2.1.1 h)
/-- behind a call that may throw -/
theorem pq_xcalli {mc ms : Nat} {st0 : List Value} {a : Array Value} {P : Int32 → List (Nat × va_E) → Prop} (hW : pq_W D A s.heap L f0 as cs H locs) (js ks : List Nat) (hjk : (js ++ ks).Nodup) (h0 : pq_pick cs js = cs0) (h2 : pq_pick cs ks = cs2)
    (hr : ∀ f, pw_W D A s.heap L f H locs → pq_C L f cs0 → vx_Run p l e R s m args below meth c H locs cells slots mc ms (F0 m pc ls st0) rest (pq_Qi D H.size L f (cs0.map Prod.fst) P a) (pq_T D H.size L f (cs0.map Prod.fst) PX) (pw_A L f H.size))
    (kx : ∀ (E : String) (ce : Cell) (q9 : Nat) (cs1 : List (Nat × va_E)) (H1 : Heap) (locs1 : List Loc), PX E cs1 → pq_W D A s.heap L f0 as (cs1 ++ cs2) H1 locs1 → H1[q9]? = some ce → ce.vm = .none → s.vm.findClass E = some ce.cls → vx_W p l e R s m args below meth c H1 locs1 (cells + mc) (slots + ms) Q (F0 m pc ls rest) q9)
    (kk : ∀ (r : Int32) (cs1 : List (Nat × va_E)) (H1 : Heap) (locs1 : List Loc), P r cs1 → pq_W D A s.heap L f0 as (cs1 ++ cs2) H1 locs1 → W p l e R s m args below meth c H1 locs1 (cells + mc) (slots + ms) Q (F0 m (pc + 3) ls (.int r :: rest))) : W p l e R s m args below meth c H locs cells slots Q (F0 m pc ls st0) := by
  obtain ⟨f, hw, hC, ha, hF⟩ := hW
  have hC0 : pq_C L f cs0 := h0 ▸ hC.pick js (List.nodup_append.mp hjk).1
  refine vx_calli (hr f hw hC0) hw.2.2.1 (fun q _ h => pq_sub hw q h) (pq_sub hw) (fun q _ h => pq_sub hw q h) (fun E ce q9 u t H1 locs1 ht _ _ hB _ _ hS hce hcv hcl => ?_) (fun r u t H1 locs1 ht _ hp hB _ _ hS => ?_)
  · obtain ⟨L1, f1⟩ := u
    obtain ⟨hp, hP1, hD1⟩ := hB
    rw [ht] at hP1
    obtain ⟨cs1, hP, h9⟩ := pq_back ⟨hP1, hD1.weaken (fun k q _ h => pq_sub hw q.1 h), hS, hw.2.2.2⟩ hC ha hF js ks hjk h0 h2 hp
    exact kx E ce q9 cs1 H1 locs1 hP h9 hce hcv hcl
  · obtain ⟨L1, f1⟩ := u
    obtain ⟨hP1, hD1⟩ := hB
    rw [ht] at hP1
    obtain ⟨cs1, hP, h9⟩ := pq_back ⟨hP1, hD1.weaken (fun k q _ h => pq_sub hw q.1 h), hS, hw.2.2.2⟩ hC ha hF js ks hjk h0 h2 hp
    exact kk r cs1 H1 locs1 hP h9
theorem pq_xcallv {mc ms : Nat} {st0 : List Value} {a : Array Value} {P : List (Nat × va_E) → Prop} (hW : pq_W D A s.heap L f0 as cs H locs) (js ks : List Nat) (hjk : (js ++ ks).Nodup) (h0 : pq_pick cs js = cs0) (h2 : pq_pick cs ks = cs2)
    (hr : ∀ f, pw_W D A s.heap L f H locs → pq_C L f cs0 → vx_Run p l e R s m args below meth c H locs cells slots mc ms (F0 m pc ls st0) rest (pq_Qv D H.size L f (cs0.map Prod.fst) P a) (pq_T D H.size L f (cs0.map Prod.fst) PX) (pw_A L f H.size))
    (kx : ∀ (E : String) (ce : Cell) (q9 : Nat) (cs1 : List (Nat × va_E)) (H1 : Heap) (locs1 : List Loc), PX E cs1 → pq_W D A s.heap L f0 as (cs1 ++ cs2) H1 locs1 → H1[q9]? = some ce → ce.vm = .none → s.vm.findClass E = some ce.cls → vx_W p l e R s m args below meth c H1 locs1 (cells + mc) (slots + ms) Q (F0 m pc ls rest) q9)
    (kk : ∀ (cs1 : List (Nat × va_E)) (H1 : Heap) (locs1 : List Loc), P cs1 → pq_W D A s.heap L f0 as (cs1 ++ cs2) H1 locs1 → W p l e R s m args below meth c H1 locs1 (cells + mc) (slots + ms) Q (F0 m (pc + 3) ls rest)) : W p l e R s m args below meth c H locs cells slots Q (F0 m pc ls st0) := by
  obtain ⟨f, hw, hC, ha, hF⟩ := hW
  have hC0 : pq_C L f cs0 := h0 ▸ hC.pick js (List.nodup_append.mp hjk).1
  refine vx_callv (hr f hw hC0) hw.2.2.1 (fun q _ h => pq_sub hw q h) (pq_sub hw) (fun q _ h => pq_sub hw q h) (fun E ce q9 u t H1 locs1 ht _ _ hB _ _ hS hce hcv hcl => ?_) (fun u t H1 locs1 ht _ hp hB _ _ hS => ?_)
  · obtain ⟨L1, f1⟩ := u
    obtain ⟨hp, hP1, hD1⟩ := hB
    rw [ht] at hP1
    obtain ⟨cs1, hP, h9⟩ := pq_back ⟨hP1, hD1.weaken (fun k q _ h => pq_sub hw q.1 h), hS, hw.2.2.2⟩ hC ha hF js ks hjk h0 h2 hp
    exact kx E ce q9 cs1 H1 locs1 hP h9 hce hcv hcl
  · obtain ⟨L1, f1⟩ := u
    obtain ⟨hP1, hD1⟩ := hB
    rw [ht] at hP1
    obtain ⟨cs1, hP, h9⟩ := pq_back ⟨hP1, hD1.weaken (fun k q _ h => pq_sub hw q.1 h), hS, hw.2.2.2⟩ hC ha hF js ks hjk h0 h2 hp
    exact kk cs1 H1 locs1 hP h9
/-- behind a call that always throws -/
theorem pq_xcallN {mc ms : Nat} {st0 : List Value} (hW : pq_W D A s.heap L f0 as cs H locs) (js ks : List Nat) (hjk : (js ++ ks).Nodup) (h0 : pq_pick cs js = cs0) (h2 : pq_pick cs ks = cs2)
    (hr : ∀ f, pw_W D A s.heap L f H locs → pq_C L f cs0 → vx_Run p l e R s m args below meth c H locs cells slots mc ms (F0 m pc ls st0) rest (fun _ _ _ => False) (pq_T D H.size L f (cs0.map Prod.fst) PX) (pw_A L f H.size))
    (kx : ∀ (E : String) (ce : Cell) (q9 : Nat) (cs1 : List (Nat × va_E)) (H1 : Heap) (locs1 : List Loc), PX E cs1 → pq_W D A s.heap L f0 as (cs1 ++ cs2) H1 locs1 → H1[q9]? = some ce → ce.vm = .none → s.vm.findClass E = some ce.cls → vx_W p l e R s m args below meth c H1 locs1 (cells + mc) (slots + ms) Q (F0 m pc ls rest) q9) : W p l e R s m args below meth c H locs cells slots Q (F0 m pc ls st0) := by
  obtain ⟨f, hw, hC, ha, hF⟩ := hW
  have hC0 : pq_C L f cs0 := h0 ▸ hC.pick js (List.nodup_append.mp hjk).1
  intro T hT X
  rcases hr f hw hC0 T hT X with ⟨v, st₀, t, T', L1, h9, X', hL, e1, e2, hf, st⟩ | ⟨q, st₀, t, T', L1, E, ce, h9, X', hL, e1, e2, ⟨u, _, hb, hF9⟩, hce, hcv, hcl, st⟩
  · exact hf.elim
  · obtain ⟨k1, k2, k3⟩ := vx_keep h9 e1 hw.2.2.1 (fun q _ h => pq_sub hw q h) (pq_sub hw) hL hF9
    obtain ⟨L2, f2⟩ := u
    obtain ⟨hp, hP1, hD1⟩ := hb
    rw [← e1] at hP1
    obtain ⟨cs1, hP, h8⟩ := pq_back ⟨hP1, hD1.weaken (fun k q _ h => pq_sub hw q.1 h), k3, hw.2.2.2⟩ hC ha hF js ks hjk h0 h2 hp
    obtain ⟨t2, a1, b1⟩ := kx E ce q cs1 T'.heap (locs ++ L1) hP h8 (by rw [e1]; exact hce) hcv hcl T' rfl X'
    exact ⟨t2, st.trans a1, b1⟩
end PX
