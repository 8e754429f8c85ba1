/-! WHAT THE CLASS THROWS: its texts, the words of the two exceptions that no list of words carries, Throwable's two statics. -/
def px_IAE : String := "java/lang/IllegalArgumentException"
def px_ISE : String := "java/lang/IllegalStateException"
def px_strs : List (Nat × String) := [(106, "the tape would be too long"), (117, "the tape has not so many bytes"), (143, "no such what"), (210, "no such word"), (216, "no such cell"), (240, "no such fun"), (298, "the collection is full"), (360, "no such tongue"), (362, "no such kind"), (364, "no such place")]
def px_X (sa : Nat → Nat) (A : Nat → Prop) (U : State) (H : Heap) : Prop :=
  (∀ x ∈ px_strs, vk_R RX12 x.1 x.2 (sa x.1) U) ∧
  (va_Nw (.castable "java/lang/IllegalArgumentException" "java/lang/IllegalArgumentException") U ∧ va_Nw (.castable "java/lang/IllegalStateException" "java/lang/IllegalStateException") U ∧
    va_Nw (.declares ⟨"java/lang/RuntimeException", "<init>", "(Ljava/lang/String;)V"⟩) U ∧ va_Nw (.declares ⟨"java/lang/Exception", "<init>", "(Ljava/lang/String;)V"⟩) U ∧ va_Nw (.declares ⟨"java/lang/Throwable", "<init>", "(Ljava/lang/String;)V"⟩) U) ∧
  vx_Zq Bundle.tN "UNASSIGNED_STACK" Bundle.steD A U H ∧ vx_Zq Bundle.tN "SUPPRESSED_SENTINEL" Bundle.listD A U H
theorem px_X.to {sa : Nat → Nat} {A A' : Nat → Prop} {s U : State} {H H1 : Heap} (hW : s.WarmedH U.vm) (hk : ∀ q : Nat, q < H.size → ¬ A q → H1[q]? = H[q]?) (hA : ∀ q, A' q → A q) (h : px_X sa A s H) : px_X sa A' U H1 :=
  ⟨fun x hx => (h.1 x hx).warm hW, ⟨va_Nw.warmC hW h.2.1.1, va_Nw.warmC hW h.2.1.2.1, va_Nw.warmD hW h.2.1.2.2.1, va_Nw.warmD hW h.2.1.2.2.2.1, va_Nw.warmD hW h.2.1.2.2.2.2⟩,
    ((h.2.2.1.moved hW.alike).kept hk).narrow hA, ((h.2.2.2.moved hW.alike).kept hk).narrow hA⟩
theorem px_X.same {sa : Nat → Nat} {A : Nat → Prop} {s U : State} {H : Heap} (hv : s.vm = U.vm) (h : px_X sa A s H) : px_X sa A U H := by
  have ha : s.vm.Alike U.vm := by rw [← hv]; exact Vm.Alike.refl s.vm
  exact ⟨fun x hx => (h.1 x hx).same hv.symm, ⟨va_Nw.same rfl hv h.2.1.1, va_Nw.same rfl hv h.2.1.2.1, va_Nw.same rfl hv h.2.1.2.2.1, va_Nw.same rfl hv h.2.1.2.2.2.1, va_Nw.same rfl hv h.2.1.2.2.2.2⟩, h.2.2.1.moved ha, h.2.2.2.moved ha⟩
/-- the start of a method that may throw -/
def px_Pc (D : va_G) (cy : Nat → ClassId) (sa : Nat → Nat) (av : List Value) (sz : Nat) (L : List Nat) (f : Nat → va_E) : Array Value → State → Prop :=
  va_Pc av (fun U => U.heap.size = sz ∧ pw_G D cy U ∧ px_X sa (pw_A L f sz) U U.heap ∧ va_P D vwCl (va_pl L f) U.heap ∧ va_D (fun _ => True) (va_pl L f))
theorem px_blind {D : va_G} {cy : Nat → ClassId} {sa : Nat → Nat} {av : List Value} {sz : Nat} {L : List Nat} {f : Nat → va_E} : FrameBlind (px_Pc D cy sa av sz L f) := by
  intro a U g mk q
  obtain ⟨q0, q1, qG, qX, qP, qD⟩ := q
  exact ⟨q0, q1, pw_G.same (s := U) (U := U.calling g mk a) rfl qG, px_X.same (s := U) (U := U.calling g mk a) rfl qX, qP, qD⟩
/-- where it throws: the class by its name, the pool as it stands then -/
def px_T (D : va_G) (A : Nat → Prop) (px : String → List Nat × (Nat → va_E) → Prop) : String → State → State → Prop := vx_X (fun _ : List Nat × (Nat → va_E) => True) (fun E u t => px E u ∧ pw_B D A u t) A
section PX
variable {p : Program} {l : Launch} {e : Env} {R : Room} {s : State} {m : MethodId} {args : Array Value} {below : List Frame} {meth : Method} {c : Code} {H : Heap} {locs : List Loc} {cells slots : Nat}
variable {D : va_G} {cy : Nat → ClassId} {sa : Nat → Nat} {sz : Nat} {L0 L : List Nat} {f0 f : Nat → va_E} {Qc : Array Value → State → Outcome → State → Prop} {px : String → List Nat × (Nat → va_E) → Prop} {ls : Array Slot} {rest : List Value} {Ts : List Cond}
/-- the class throws an exception of its own, with a text -/
theorem px_throw {cc : ByteArray} {pc : Nat} (hexec : p.tables.exec = Jvm.exec) (hb : c.code = cc) (hl : l.stackTraces = false) {cls text : String} {ik is ic mc ms : Nat} (hts : ∀ w ∈ Ts, w.before args s = true)
    (hown : s.vm.findClass RX12 = some m.cls) (hcls : Bundle.fit cls = true) (hcast : va_Nw (.castable cls cls) s) (hk : (Cond.classLink RX12 ik cls).before args s = true) (hini : (Cond.initialized cls).before args s = true) (hst : (is, text) ∈ px_strs)
    (hat : ∀ w ∈ (vx_atS RX12 ic cls ["java/lang/RuntimeException", "java/lang/Exception"]).filter goodWord, w ∈ Ts)
    (hbad : ∀ w ∈ (vx_atS RX12 ic cls ["java/lang/RuntimeException", "java/lang/Exception"]).filter (fun w => !goodWord w), w ∈ [Cond.castable cls cls, .declares ⟨"java/lang/RuntimeException", "<init>", "(Ljava/lang/String;)V"⟩, .declares ⟨"java/lang/Exception", "<init>", "(Ljava/lang/String;)V"⟩, .declares ⟨"java/lang/Throwable", "<init>", "(Ljava/lang/String;)V"⟩])
    (hgood : ∀ w ∈ Cond.classLink RX12 ik cls :: Cond.initialized cls :: vx_atS RX12 ic cls ["java/lang/RuntimeException", "java/lang/Exception"], vx_ot w = true)
    (hX : px_X sa (pw_A L0 f0 sz) s s.heap) (hw : pw_W D (pw_A L0 f0 sz) s.heap L f H locs) (hp : px cls (L, f)) (hsize : ls.size = c.maxLocals)
    (d0 : decode cc pc = .ok (.new ik, 3)) (d3 : decode cc (pc + 3) = .ok (.dup, 1)) (d4 : decode cc (pc + 4) = .ok (.ldc is, 2)) (d6 : decode cc (pc + 6) = .ok (.invokespecial ic, 3)) (d9 : decode cc (pc + 9) = .ok (.athrow, 1))
    (hout : ∀ x ∈ c.exceptionTable.toList, False) (hRframes : 5 < R.frames) (hRlocals : (rest.map fun v => v.category).sum + 82 ≤ R.locals) (hRcells : cells + 1 ≤ R.cells) (hRslots : slots + 6 ≤ R.slots) (hlocks : meth.locks = false) (hc : cells + 1 ≤ mc) (hs : slots + 6 ≤ ms) :
    W p l e R s m args below meth c H locs cells slots (vx_MQ below Qc (px_T D (pw_A L0 f0 sz) px) args s mc ms (pw_A L0 f0 sz)) (F0 m pc ls rest) :=
  vx_throwS hexec hb hl hown hcls (by decide +kernel) hk hini (hX.1 _ hst) (vx_hat (fun w hw => hts w (hat w hw)) hbad (vx_c (va_Nw.use rfl hcast) (vx_c (va_Nw.use rfl hX.2.1.2.2.1) (vx_c (va_Nw.use rfl hX.2.1.2.2.2.1) (vx_c (va_Nw.use rfl hX.2.1.2.2.2.2) vx_n))))) hgood hX.2.2.1 hX.2.2.2 hw.2.2.1 hsize d0 d3 d4 d6 d9 (fun x hx => (hout x hx).elim) hRframes hRlocals hRcells hRslots hlocks
    (fun t _ hz hkk => ⟨(L, f), trivial, ⟨hp, hw.1.kept (fun k q hq => hkk q.1 ((hw.1 k q hq).lt)), hw.2.1⟩, Nat.le_trans hw.2.2.1.1 hz, fun q h1 h2 => (hkk q (Nat.lt_of_lt_of_le h1 hw.2.2.1.1)).trans (hw.2.2.1.2.1 q h1 h2)⟩) hw.2.2.1.2.2 hc hs
/-- the end with an int, of a method that may throw -/
theorem px_iret {cc : ByteArray} {S : Int32 → List Nat × (Nat → va_E) → Prop} {XC : String → State → State → Prop} {mc ms : Nat} (hexec : p.tables.exec = Jvm.exec) (hb : c.code = cc) (hr : meth.sig.returnType = some .int) (hlocks : meth.locks = false) (hw : pw_W D (pw_A L0 f0 sz) s.heap L f H locs) {v : Int32} (hp : S v (L, f)) (hc : cells ≤ mc) (hs : slots ≤ ms) {pc : Nat} (hdg : decode cc pc = .ok (.ireturn, 1)) :
    W p l e R s m args below meth c H locs cells slots (vx_MQ below (va_Qi S (pw_B D (pw_A L0 f0 sz)) (pw_A L0 f0 sz)) XC args s mc ms (pw_A L0 f0 sz)) (F0 m pc ls [.int v]) :=
  vx_ret (W.widen hc hs (W.iret hexec hb hr (fun t ht hW => ⟨⟨v, (L, f), rfl, hp, by rw [ht]; exact hw.1, hw.2.1⟩, hw.2.2.1.F ht⟩) hw.2.2.1.2.2 hdg))
/-- what a callee that may throw asks of its caller's pool -/
theorem px_pre {av : List Value} {A : Nat → Prop} (hG : pw_G D cy s) (hX : px_X sa A s s.heap) (hw : pw_W D A s.heap L f H locs) : ∀ U : State, U.heap = H → s.WarmedH U.vm → px_Pc D cy sa av H.size L f av.toArray U := fun U hU hW => by
  refine ⟨rfl, by rw [hU], hG.warm hW, ?_, by rw [hU]; exact hw.1, hw.2.1.weaken (fun _ _ _ _ => trivial)⟩
  refine hX.to hW (fun q h1 h2 => by rw [hU]; exact hw.2.2.1.2.1 q h1 h2) (fun q h => ?_)
  rcases h with ⟨k, e1, h⟩ | h
  · exact hw.2.1.2 k _ h
  · exact hw.2.2.2 q (Nat.le_trans hw.2.2.1.1 h)
theorem px_preV {C : String} {T : u_T} {N ci b : Nat} {fs : List Value} {As : List Value} {A : Nat → Prop} (hG : pw_G D cy s) (hX : px_X sa A s s.heap) (hw : pw_W D A s.heap L f H locs) (hb : b ∈ L) (he : f b = .inr (ci, fs)) (hc : vwCl[ci]? = some (C, T, N)) : PreV s H C b (px_Pc D cy sa (.ref b :: As) H.size L f) As := by
  obtain ⟨k0, hk0⟩ := va_pl_get (X := []) (f := f) hb
  rw [he] at hk0
  exact ⟨px_blind, va_recv hG.1 hw.1 hc hk0, px_pre hG hX hw⟩
/-- behind a call that may throw, in the pool -/
theorem px_calli {pc mc ms : Nat} {st0 : List Value} {a : Array Value} {A : Nat → Prop} {Q : State → Prop} {S : Int32 → List Nat × (Nat → va_E) → Prop} (hw : pw_W D A s.heap L f H locs)
    (hr : vx_Run p l e R s m args below meth c H locs cells slots mc ms (F0 m pc ls st0) rest (va_Qi S (pw_B D (pw_A L f H.size)) (pw_A L f H.size) a) (px_T D (pw_A L f H.size) px) (pw_A L f H.size))
    (kx : ∀ (E : String) (ce : Cell) (q9 : Nat) (L1 : List Nat) (f1 : Nat → va_E) (H1 : Heap) (locs1 : List Loc), pw_W D A s.heap L1 f1 H1 locs1 → px E (L1, f1) → H1[q9]? = some ce → ce.vm = .none → s.vm.findClass E = some ce.cls → vx_W p l e R s m args below meth c H1 locs1 (cells + mc) (slots + ms) Q (F0 m pc ls rest) q9)
    (kk : ∀ (r : Int32) (L1 : List Nat) (f1 : Nat → va_E) (H1 : Heap) (locs1 : List Loc), pw_W D A s.heap L1 f1 H1 locs1 → S r (L1, f1) → W p l e R s m args below meth c H1 locs1 (cells + mc) (slots + ms) Q (F0 m (pc + 3) ls (.int r :: rest))) : W p l e R s m args below meth c H locs cells slots Q (F0 m pc ls st0) := by
  have hF : ∀ q, pw_A L f H.size q → A q := fun q h => by
    rcases h with ⟨k, e1, h⟩ | h
    · exact hw.2.1.2 k _ h
    · exact hw.2.2.2 q (Nat.le_trans hw.2.2.1.1 h)
  refine vx_calli hr hw.2.2.1 (fun q _ h => hF q h) hF (fun q _ h => hF q h) (fun E ce q9 u t H1 locs1 ht _ _ hB _ _ hS hce hcv hcl => ?_) (fun r u t H1 locs1 ht _ hp hB _ _ hS => ?_)
  · obtain ⟨L1, f1⟩ := u
    obtain ⟨hp, hP1, hD1⟩ := hB
    rw [ht] at hP1
    exact kx E ce q9 L1 f1 H1 locs1 ⟨hP1, hD1.weaken (fun k q _ h => hF q.1 h), hS, hw.2.2.2⟩ hp hce hcv hcl
  · obtain ⟨L1, f1⟩ := u
    obtain ⟨hP1, hD1⟩ := hB
    rw [ht] at hP1
    exact kk r L1 f1 H1 locs1 ⟨hP1, hD1.weaken (fun k q _ h => hF q.1 h), hS, hw.2.2.2⟩ hp
/-- a long into an array of the pool -/
theorem pw_last {cc : ByteArray} {pc b t0 n : Nat} {cA : ClassId} {g : Nat → Int64} {i : Int32} {x : Int64} {A : Nat → Prop} {Q : State → Prop} (hexec : p.tables.exec = Jvm.exec) (hb : c.code = cc) (hG : pw_G D cy s) (hw : pw_W D A s.heap L f H locs) (ha : b ∈ L) (he : f b = .inl (cA, n, .inr (.inl g))) (ht : (pw_T cy)[t0]? = some (cA, .long)) (hin : vp_in i n) (hdg : decode cc pc = .ok (.lastore, 1))
    (kk : ∀ (H1 : Heap) (locs1 : List Loc), pw_W D A s.heap L (va_up f b (.inl (cA, n, .inr (.inl (vp_updL g i.toNatClampNeg x))))) H1 locs1 → W p l e R s m args below meth c H1 locs1 cells slots Q (F0 m (pc + 1) ls rest)) : W p l e R s m args below meth c H locs cells slots Q (F0 m pc ls (.long x :: .int i :: .ref b :: rest)) := by
  obtain ⟨k0, hk0⟩ := va_pl_get (X := []) (f := f) ha
  have hk1 := hk0
  rw [he] at hk0
  exact va_last hexec hb hG.1 hw.1 hw.2.1 hw.2.2.1 k0 t0 hk0 ht hin hdg (fun H1 locs1 hP hD hS => kk H1 locs1 (pw_set hw ha hk1 hP hD hS))
end PX
