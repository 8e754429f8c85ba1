/-! A STRING CONSTANT, and the JDK's own methods over it. -/
def py_S (q v n : Nat) (b : Nat → Int32) (A : Nat → Prop) (U : State) (H : Heap) : Prop :=
  va_O "java/lang/String" q A U H ∧ va_OF "java/lang/String" "coder" "B" (.int 0) q A U H ∧ va_OF "java/lang/String" "value" "[B" (.ref v) q A U H ∧ va_T .byte v n (fun j => .int (b j)) A U H ∧
  va_Z "java/lang/String" "COMPACT_STRINGS" "Z" (.int 1) A U H ∧ va_Zq "jdk/internal/util/Preconditions" "SIOOBE_FORMATTER" "Ljava/util/function/BiFunction;" A U H
theorem py_S.to {q v n : Nat} {b : Nat → Int32} {A A' : Nat → Prop} {s U : State} {H H1 : Heap} (hv : s.vm.Alike U.vm) (hk : ∀ a : Nat, a < H.size → ¬ A a → H1[a]? = H[a]?) (hA : ∀ a, A' a → A a) (h : py_S q v n b A s H) : py_S q v n b A' U H1 :=
  ⟨((h.1.moved hv).kept hk).narrow hA, ((h.2.1.moved hv).kept hk).narrow hA, ((h.2.2.1.moved hv).kept hk).narrow hA, ((h.2.2.2.1.moved hv).kept hk).narrow hA, ((h.2.2.2.2.1.moved hv).kept hk).narrow hA, ((h.2.2.2.2.2.moved hv).kept hk).narrow hA⟩
def py_Pc (D : va_G) (cy : Nat → ClassId) (q v n : Nat) (b : Nat → Int32) (av : List Value) (sz : Nat) (L : List Nat) (f : Nat → va_E) : Array Value → State → Prop :=
  va_Pc av (fun U => U.heap.size = sz ∧ pw_G D cy U ∧ py_S q v n b (pw_A L f sz) U U.heap ∧ va_P D vwCl (va_pl L f) U.heap ∧ va_D (fun _ => True) (va_pl L f))
theorem py_blind {D : va_G} {cy : Nat → ClassId} {q v n : Nat} {b : Nat → Int32} {av : List Value} {sz : Nat} {L : List Nat} {f : Nat → va_E} : FrameBlind (py_Pc D cy q v n b av sz L f) := by
  intro a U g mk h
  obtain ⟨q0, q1, qG, qX, qP, qD⟩ := h
  exact ⟨q0, q1, pw_G.same (s := U) (U := U.calling g mk a) rfl qG, qX.to (s := U) (U := U.calling g mk a) (Vm.Alike.refl U.vm) (fun _ _ _ => rfl) (fun _ h => h), qP, qD⟩
section PY
variable {p : Program} {l : Launch} {e : Env} {R : Room} {s : State} {m : MethodId} {args : Array Value} {below : List Frame} {meth : Method} {c : Code} {H : Heap} {locs : List Loc} {cells slots : Nat}
variable {D : va_G} {cy : Nat → ClassId} {sz : Nat} {L0 L : List Nat} {f0 f : Nat → va_E} {ls : Array Slot} {rest : List Value} {q v n : Nat} {b : Nat → Int32}
theorem pw_sub {A : Nat → Prop} (hw : pw_W D A s.heap L f H locs) : ∀ q, pw_A L f H.size q → A q := fun q h => by
  rcases h with ⟨k, e1, h⟩ | h
  · exact hw.2.1.2 k _ h
  · exact hw.2.2.2 q (Nat.le_trans hw.2.2.1.1 h)
theorem py_pre {av : List Value} {A : Nat → Prop} (hG : pw_G D cy s) (hY : py_S q v n b A s s.heap) (hw : pw_W D A s.heap L f H locs) : PreS s H (py_Pc D cy q v n b av H.size L f) av :=
  ⟨py_blind, fun U hU hW => ⟨rfl, by rw [hU], hG.warm hW, hY.to hW.alike (fun a h1 h2 => by rw [hU]; exact hw.2.2.1.2.1 a h1 h2) (pw_sub hw), by rw [hU]; exact hw.1, hw.2.1.weaken (fun _ _ _ _ => trivial)⟩⟩
theorem py_preV {As : List Value} {A : Nat → Prop} (hG : pw_G D cy s) (hY : py_S q v n b A s s.heap) (hw : pw_W D A s.heap L f H locs) : PreV s H "java/lang/String" q (py_Pc D cy q v n b (.ref q :: As) H.size L f) As := by
  obtain ⟨cell, h1, h2, h3, -⟩ := hY.1.kept hw.2.2.1.2.1
  exact ⟨py_blind, ⟨cell, h1, h2, h3⟩, (py_pre hG hY hw).2⟩
/-- the end with a number of a small type -/
theorem pw_zret {cc : ByteArray} {S : Int32 → List Nat × (Nat → va_E) → Prop} {ty : FieldType} (hexec : p.tables.exec = Jvm.exec) (hb : c.code = cc) (hr : meth.sig.returnType = some ty) {x : Int32} (hn : narrow ty (.int x) = .int x) (hlocks : meth.locks = false) (hw : pw_W D (pw_A L0 f0 sz) s.heap L f H locs) (hp : S x (L, f)) {pc : Nat} (hdg : decode cc pc = .ok (.ireturn, 1)) :
    W p l e R s m args below meth c H locs cells slots (MQ below (va_Qi S (pw_B D (pw_A L0 f0 sz)) (pw_A L0 f0 sz)) args s cells slots (pw_A L0 f0 sz)) (F0 m pc ls [.int x]) :=
  W.zret hexec hb hr hn (fun t ht hW => ⟨⟨x, (L, f), rfl, hp, by rw [ht]; exact hw.1, hw.2.1⟩, hw.2.2.1.F ht⟩) hw.2.2.1.2.2 hdg
theorem pw_lret {cc : ByteArray} {S : Int64 → List Nat × (Nat → va_E) → Prop} (hexec : p.tables.exec = Jvm.exec) (hb : c.code = cc) (hr : meth.sig.returnType = some .long) {x : Int64} (hlocks : meth.locks = false) (hw : pw_W D (pw_A L0 f0 sz) s.heap L f H locs) (hp : S x (L, f)) {pc : Nat} (hdg : decode cc pc = .ok (.lreturn, 1)) :
    W p l e R s m args below meth c H locs cells slots (MQ below (va_Ql S (pw_B D (pw_A L0 f0 sz)) (pw_A L0 f0 sz)) args s cells slots (pw_A L0 f0 sz)) (F0 m pc ls [.long x]) :=
  W.lret hexec hb hr (fun t ht hW => ⟨⟨x, (L, f), rfl, hp, by rw [ht]; exact hw.1, hw.2.1⟩, hw.2.2.1.F ht⟩) hw.2.2.1.2.2 hdg
theorem pw_calli {pc mc ms : Nat} {st0 : List Value} {a : Array Value} {A : Nat → Prop} {Q : State → Prop} {S : Int32 → List Nat × (Nat → va_E) → Prop} (hw : pw_W D A s.heap L f H locs)
    (hr : va_Run p l e R s m args below meth c H locs cells slots mc ms (F0 m pc ls st0) rest (va_Qi S (pw_B D (pw_A L f H.size)) (pw_A L f H.size) a) (pw_A L f H.size))
    (kk : ∀ (r : Int32) (L1 : List Nat) (f1 : Nat → va_E) (H1 : Heap) (locs1 : List Loc), pw_W D A s.heap L1 f1 H1 locs1 → S r (L1, f1) → W p l e R s m args below meth c H1 locs1 (cells + mc) (slots + ms) Q (F0 m (pc + 3) ls (.int r :: rest))) : W p l e R s m args below meth c H locs cells slots Q (F0 m pc ls st0) := by
  refine va_calli hr hw.2.2.1 (fun q _ h => pw_sub hw q h) (pw_sub hw) (fun r u t H1 locs1 ht _ hp hB _ _ hS => ?_)
  obtain ⟨L1, f1⟩ := u
  obtain ⟨hP1, hD1⟩ := hB
  rw [ht] at hP1
  exact kk r L1 f1 H1 locs1 ⟨hP1, hD1.weaken (fun k q _ h => pw_sub hw q.1 h), hS, hw.2.2.2⟩ hp
theorem pw_calll {pc mc ms : Nat} {st0 : List Value} {a : Array Value} {A : Nat → Prop} {Q : State → Prop} {S : Int64 → List Nat × (Nat → va_E) → Prop} (hw : pw_W D A s.heap L f H locs)
    (hr : va_Run p l e R s m args below meth c H locs cells slots mc ms (F0 m pc ls st0) rest (va_Ql S (pw_B D (pw_A L f H.size)) (pw_A L f H.size) a) (pw_A L f H.size))
    (kk : ∀ (r : Int64) (L1 : List Nat) (f1 : Nat → va_E) (H1 : Heap) (locs1 : List Loc), pw_W D A s.heap L1 f1 H1 locs1 → S r (L1, f1) → W p l e R s m args below meth c H1 locs1 (cells + mc) (slots + ms) Q (F0 m (pc + 3) ls (.long r :: rest))) : W p l e R s m args below meth c H locs cells slots Q (F0 m pc ls st0) := by
  refine va_calll hr hw.2.2.1 (fun q _ h => pw_sub hw q h) (pw_sub hw) (fun r u t H1 locs1 ht _ hp hB _ _ hS => ?_)
  obtain ⟨L1, f1⟩ := u
  obtain ⟨hP1, hD1⟩ := hB
  rw [ht] at hP1
  exact kk r L1 f1 H1 locs1 ⟨hP1, hD1.weaken (fun k q _ h => pw_sub hw q.1 h), hS, hw.2.2.2⟩ hp
end PY
