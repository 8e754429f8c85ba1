/-! CELLS, CALLS, PATHS: a method's run as a path of values over the pool, and its contract out of that path. -/
/-- a method: its name, its bytes, its locals, what it returns -/
abbrev gx_M : Type := MethodName × ByteArray × Nat × Option FieldType
def gx_code (M : gx_M) : Cond := Cond.code M.1 M.2.1 M.2.2.1 M.2.2.2
def gx_fl (ws0 : List Cond) (own : String) (ix ci k : Nat) : Prop := ∃ (C : String) (T : u_T) (n : Nat), vwCl[ci]? = some (C, T, n) ∧ k < n ∧ (∀ w ∈ u_ws C T n, w ∈ ws0) ∧ Cond.fieldLink own ix (T k).1 (T k).2.1 (T k).2.2.1 ∈ ws0
def gx_fp (ws0 : List Cond) (own : String) (ix ci k : Nat) (ty : FieldType) : Prop := ∃ (C : String) (T : u_T) (n : Nat) (ty0 : Nat → FieldType), vwCl[ci]? = some (C, T, n) ∧ k < n ∧ (∀ w ∈ u_ws C T n, w ∈ ws0) ∧ Cond.fieldLink own ix (T k).1 (T k).2.1 (T k).2.2.1 ∈ ws0 ∧ (∀ k, k < n → parseFieldDescriptor (T k).2.2.1 = some (ty0 k)) ∧ (∀ a, a < n → ∀ b, b < n → a ≠ b → (T a).2.1 ≠ (T b).2.1) ∧ (T k).2.2.2 = false ∧ ty0 k = ty
def gx_lV (ws0 : List Cond) (own : String) (ix : Nat) (M : gx_M) (n : Nat) : Prop := gx_code M ∈ ws0 ∧ Cond.methodLink own ix M.1 ∈ ws0 ∧ Cond.instanceMethod M.1 ∈ ws0 ∧ Cond.selects M.1.cls M.1 M.1 ∈ ws0 ∧ Cond.initialized M.1.cls ∈ ws0 ∧ (M.1.cls ≠ "java/lang/invoke/MethodHandle" ∧ M.1.cls ≠ "java/lang/invoke/VarHandle" ∧ (parseMethodDescriptor M.1.desc).map (fun d => d.parameters.length) = some n) ∧ M.2.2.1 ≤ 45
def gx_lS (ws0 : List Cond) (own : String) (ix : Nat) (M : gx_M) (n : Nat) : Prop := gx_code M ∈ ws0 ∧ Cond.methodLink own ix M.1 ∈ ws0 ∧ Cond.static M.1 ∈ ws0 ∧ Cond.initialized M.1.cls ∈ ws0 ∧ (M.1.cls ≠ "java/lang/invoke/MethodHandle" ∧ M.1.cls ≠ "java/lang/invoke/VarHandle" ∧ (parseMethodDescriptor M.1.desc).map (fun d => d.parameters.length) = some n) ∧ M.2.2.1 ≤ 45
theorem gx_gV {ws0 : List Cond} (hg : ∀ w ∈ ws0, goodWord w = true) {own : String} {ix n : Nat} {M : gx_M} (h : gx_lV ws0 own ix M n) : GoodIn ws0 (wsV own ix M.1.cls M.1 (gx_code M :: ws0)) := fun w hw => by
  obtain ⟨h0, h1, h2, h3, h4, -⟩ := h
  have h9 : w ∈ ws0 := by
    rcases List.mem_append.mp hw with hw | hw
    · rcases List.mem_cons.mp hw with rfl | hw
      · exact h1
      rcases List.mem_cons.mp hw with rfl | hw
      · exact h2
      rcases List.mem_cons.mp hw with rfl | hw
      · exact h3
      rcases List.mem_cons.mp hw with rfl | hw
      · exact h4
      exact absurd hw List.not_mem_nil
    · rcases List.mem_cons.mp hw with rfl | hw
      · exact h0
      · exact hw
  exact ⟨h9, good_of_word (hg w h9)⟩
theorem gx_gS {ws0 : List Cond} (hg : ∀ w ∈ ws0, goodWord w = true) {own : String} {ix n : Nat} {M : gx_M} (h : gx_lS ws0 own ix M n) : GoodIn ws0 (va_wsS own ix M.1 (gx_code M :: ws0)) := fun w hw => by
  obtain ⟨h0, h1, h2, h3, -⟩ := h
  have h9 : w ∈ ws0 := by
    rcases List.mem_append.mp hw with hw | hw
    · rcases List.mem_cons.mp hw with rfl | hw
      · exact h1
      rcases List.mem_cons.mp hw with rfl | hw
      · exact h2
      rcases List.mem_cons.mp hw with rfl | hw
      · exact h3
      exact absurd hw List.not_mem_nil
    · rcases List.mem_cons.mp hw with rfl | hw
      · exact h0
      · exact hw
  exact ⟨h9, good_of_word (hg w h9)⟩
section GY
variable {p : Program} {l : Launch} {e : Env} {R : Room} {s : State} {m : MethodId} {args : Array Value} {below : List Frame} {meth : Method} {c : Code} {H : Heap} {locs : List Loc} {cells slots : Nat} {Q : State → Prop}
variable {cc : ByteArray} {pc pcₚ N d : Nat} {ls : Array Slot} {st stₚ : List Value} {i : Instr} {D : va_G} {cy : Nat → ClassId} {A : Nat → Prop} {L : List Nat} {f f' : Nat → va_E} {ws0 : List Cond} {own : String}
end GY
