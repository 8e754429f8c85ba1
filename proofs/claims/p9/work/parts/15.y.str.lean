/-! A STRING CONSTANT, and the JDK's own methods over it. -/
def py_S (q v n : Nat) (b : Nat → Int32) (A : Nat → Prop) (U : State) (H : Heap) : Prop :=
  va_O "java/lang/String" q A U H ∧ va_OF "java/lang/String" "coder" "B" (.int 0) q A U H ∧ va_OF "java/lang/String" "value" "[B" (.ref v) q A U H ∧ va_T .byte v n (fun j => .int (b j)) A U H ∧
  va_Z "java/lang/String" "COMPACT_STRINGS" "Z" (.int 1) A U H ∧ va_Zq "jdk/internal/util/Preconditions" "SIOOBE_FORMATTER" "Ljava/util/function/BiFunction;" A U H
theorem py_S.to {q v n : Nat} {b : Nat → Int32} {A Aₚ : Nat → Prop} {s U : State} {H H1 : Heap} (hv : s.vm.Alike U.vm) (hk : ∀ a : Nat, a < H.size → ¬ A a → H1[a]? = H[a]?) (hA : ∀ a, Aₚ a → A a) (h : py_S q v n b A s H) : py_S q v n b Aₚ U H1 :=
  ⟨((h.1.moved hv).kept hk).narrow hA, ((h.2.1.moved hv).kept hk).narrow hA, ((h.2.2.1.moved hv).kept hk).narrow hA, ((h.2.2.2.1.moved hv).kept hk).narrow hA, ((h.2.2.2.2.1.moved hv).kept hk).narrow hA, ((h.2.2.2.2.2.moved hv).kept hk).narrow hA⟩
def py_Pc (D : va_G) (cy : Nat → ClassId) (q v n : Nat) (b : Nat → Int32) (av : List Value) (sz : Nat) (L : List Nat) (f : Nat → va_E) : Array Value → State → Prop :=
  va_Pc av (fun U => U.heap.size = sz ∧ pw_G D cy U ∧ py_S q v n b (pw_A L f sz) U U.heap ∧ va_P D vwCl (va_pl L f) U.heap ∧ va_D (fun _ => True) (va_pl L f))
theorem py_blind {D : va_G} {cy : Nat → ClassId} {q v n : Nat} {b : Nat → Int32} {av : List Value} {sz : Nat} {L : List Nat} {f : Nat → va_E} : FrameBlind (py_Pc D cy q v n b av sz L f) := by
  intro a U g mk h
  obtain ⟨q0, q1, qG, qX, qP, qD⟩ := h
  exact ⟨q0, q1, pw_G.same (s := U) (U := U.calling g mk a) rfl qG, qX.to (s := U) (U := U.calling g mk a) (Vm.Alike.refl U.vm) (fun _ _ _ => rfl) (fun _ h => h), qP, qD⟩
theorem pq_C.nil {L : List Nat} {f : Nat → va_E} : pq_C L f [] := ⟨List.nodup_nil, fun _ h => absurd h List.not_mem_nil⟩
section PY
variable {p : Program} {l : Launch} {e : Env} {R : Room} {s : State} {m : MethodId} {args : Array Value} {below : List Frame} {meth : Method} {c : Code} {H : Heap} {locs : List Loc} {cells slots : Nat} {Q : State → Prop}
variable {D : va_G} {cy : Nat → ClassId} {sz : Nat} {L as : List Nat} {f f0 : Nat → va_E} {ls : Array Slot} {rest : List Value} {q v n : Nat} {b : Nat → Int32} {cs : List (Nat × va_E)} {cc : ByteArray} {pc : Nat}
theorem py_pre {av : List Value} {A : Nat → Prop} (hG : pw_G D cy s) (hY : py_S q v n b A s s.heap) (hw : pw_W D A s.heap L f H locs) : PreS s H (py_Pc D cy q v n b av H.size L f) av :=
  ⟨py_blind, fun U hU hW => ⟨rfl, by rw [hU], hG.warm hW, hY.to hW.alike (fun a h1 h2 => by rw [hU]; exact hw.2.2.1.2.1 a h1 h2) (pq_sub hw), by rw [hU]; exact hw.1, hw.2.1.weaken (fun _ _ _ _ => trivial)⟩⟩
theorem py_preV {As : List Value} {A : Nat → Prop} (hG : pw_G D cy s) (hY : py_S q v n b A s s.heap) (hw : pw_W D A s.heap L f H locs) : PreV s H RJ0 q (py_Pc D cy q v n b (.ref q :: As) H.size L f) As := by
  obtain ⟨cell, h1, h2, h3, -⟩ := hY.1.kept hw.2.2.1.2.1
  exact ⟨py_blind, ⟨cell, h1, h2, h3⟩, (py_pre hG hY hw).2⟩
theorem pq_W.S {A : Nat → Prop} {H0 : Heap} (h : pq_W D A H0 L f0 as cs H locs) : va_S A H0 H locs := by
  obtain ⟨f, hw, -⟩ := h
  exact hw.2.2.1
theorem py_ldcSW (hexec : p.tables.exec = Jvm.exec) (hb : c.code = cc) {own tx : String} {index q : Nat} (hown : s.vm.findClass own = some m.cls) (hZ : vk_R own index tx q s) (hdg : decode cc pc = .ok (.ldc_w index, 3))
    (k : W p l e R s m args below meth c H locs cells slots Q (F0 m (pc + 3) ls (.ref q :: rest))) : W p l e R s m args below meth c H locs cells slots Q (F0 m pc ls rest) := by
  intro T hT X
  obtain ⟨t, a1, b1⟩ := k T hT X
  exact ⟨t, X.ldcStringW hexec hown (text := tx) (a := q) hZ.1 hZ.2 (g := F0 m pc ls rest) rfl (by rw [hb]; exact hdg) t a1, b1⟩
end PY
/-! WHAT STANDS OUTSIDE OF THE POOL: the class's texts, Throwable's statics, the reference's text of signs (place 1005000). -/
def gz_sx : String := ";=+>/_#(),:.-*\\[]{}"
def gz_sl : List Int := [59, 61, 43, 62, 47, 95, 35, 40, 41, 44, 58, 46, 45, 42, 92, 91, 93, 123, 125]
def gz_sb (j : Nat) : Int32 := Int32.ofInt (gz_sl.getD j 0)
def gz_X (sa : Nat → Nat) (sv : Nat) (A : Nat → Prop) (U : State) (H : Heap) : Prop := px_X sa A U H ∧ py_S (sa 5000) sv 19 gz_sb A U H ∧ vk_R RX13 619 gz_sx (sa 5000) U ∧ va_Nw (.castable "[B" "java/lang/Cloneable") U
theorem gz_X.to {sa : Nat → Nat} {sv : Nat} {A Aₚ : Nat → Prop} {s U : State} {H H1 : Heap} (hW : s.WarmedH U.vm) (hk : ∀ q : Nat, q < H.size → ¬ A q → H1[q]? = H[q]?) (hA : ∀ q, Aₚ q → A q) (h : gz_X sa sv A s H) : gz_X sa sv Aₚ U H1 :=
  ⟨h.1.to hW hk hA, h.2.1.to hW.alike hk hA, h.2.2.1.warm hW, va_Nw.warmC hW h.2.2.2⟩
theorem gz_X.same {sa : Nat → Nat} {sv : Nat} {A : Nat → Prop} {s U : State} {H : Heap} (hv : s.vm = U.vm) (h : gz_X sa sv A s H) : gz_X sa sv A U H :=
  ⟨h.1.same hv, h.2.1.to (by rw [← hv]; exact Vm.Alike.refl s.vm) (fun _ _ _ => rfl) (fun _ q => q), h.2.2.1.same hv.symm, va_Nw.same rfl hv h.2.2.2⟩
def gz_Pc (D : va_G) (cy : Nat → ClassId) (sa : Nat → Nat) (sv : Nat) (av : List Value) (sz : Nat) (L : List Nat) (f : Nat → va_E) : Array Value → State → Prop :=
  va_Pc av (fun U => U.heap.size = sz ∧ pw_G D cy U ∧ gz_X sa sv (pw_A L f sz) U U.heap ∧ va_P D vwCl (va_pl L f) U.heap ∧ va_D (fun _ => True) (va_pl L f))
theorem gz_blind {D : va_G} {cy : Nat → ClassId} {sa : Nat → Nat} {sv : Nat} {av : List Value} {sz : Nat} {L : List Nat} {f : Nat → va_E} : FrameBlind (gz_Pc D cy sa sv av sz L f) := by
  intro a U g mk q
  obtain ⟨q0, q1, qG, qX, qP, qD⟩ := q
  exact ⟨q0, q1, pw_G.same (s := U) (U := U.calling g mk a) rfl qG, gz_X.same (s := U) (U := U.calling g mk a) rfl qX, qP, qD⟩
theorem gz_pre {D : va_G} {cy : Nat → ClassId} {sa : Nat → Nat} {sv : Nat} {s : State} {A : Nat → Prop} {L : List Nat} {f : Nat → va_E} {H : Heap} {locs : List Loc} {av : List Value} (hG : pw_G D cy s) (hX : gz_X sa sv A s s.heap) (hw : pw_W D A s.heap L f H locs) : ∀ U : State, U.heap = H → s.WarmedH U.vm → gz_Pc D cy sa sv av H.size L f av.toArray U := fun U hU hW => by
  refine ⟨rfl, by rw [hU], hG.warm hW, ?_, by rw [hU]; exact hw.1, hw.2.1.weaken (fun _ _ _ _ => trivial)⟩
  refine hX.to hW (fun q h1 h2 => by rw [hU]; exact hw.2.2.1.2.1 q h1 h2) (fun q h => ?_)
  rcases h with ⟨k, e1, h⟩ | h
  · exact hw.2.1.2 k _ h
  · exact hw.2.2.2 q (Nat.le_trans hw.2.2.1.1 h)
