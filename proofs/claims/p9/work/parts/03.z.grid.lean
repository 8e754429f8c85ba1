/-! new T[n][k]: the outer array, its rows behind it, one after the other. -/
def mw_out (c : ClassId) (n h i : Nat) : Cell := arrV c n (fun j => if j < i then .ref (h + 1 + j) else .null)
def mw_in (c : ClassId) (k : Nat) (v : Value) : Cell := { cls := c, slots := Array.replicate k v, vm := .none }
/-- the state with i rows made -/
def mw_st (T : State) (cA cB : ClassId) (n k : Nat) (v : Value) : Nat → State
  | 0 => T.pushCell (mw_out cA n T.heap.size 0)
  | i + 1 => ((mw_st T cA cB n k v i).pushCell (mw_in cB k v)).setCell T.heap.size (mw_out cA n T.heap.size (i + 1))
theorem mw_out_0 (c : ClassId) (n h : Nat) : mw_out c n h 0 = { cls := c, slots := Array.replicate n .null, vm := .none } := by
  unfold mw_out
  rw [arrV_new]
  refine congrArg (arrV c n) (funext fun j => ?_)
  simp
theorem mw_out_s (c : ClassId) (n h i : Nat) : (mw_out c n h i).setSlot i (.ref (h + 1 + i)) = mw_out c n h (i + 1) := by
  unfold mw_out
  rw [arrV_store]
  refine congrArg (arrV c n) (funext fun j => ?_)
  unfold updV
  by_cases e : j = i
  · subst e; simp
  · rw [if_neg e]
    show (if j < i then Value.ref (h + 1 + j) else Value.null) = _
    by_cases h1 : j < i
    · rw [if_pos h1, if_pos (by omega)]
    · rw [if_neg h1, if_neg (by omega)]
theorem mw_size (T : State) (cA cB : ClassId) (n k : Nat) (v : Value) : ∀ i, (mw_st T cA cB n k v i).heap.size = T.heap.size + 1 + i
  | 0 => by simp [mw_st]
  | i + 1 => by
    have h := mw_size T cA cB n k v i
    simp [mw_st, State.setCell, h]
    omega
theorem mw_top (T : State) (cA cB : ClassId) (n k : Nat) (v : Value) (i : Nat) : (mw_st T cA cB n k v i).heap[T.heap.size]? = some (mw_out cA n T.heap.size i) := by
  cases i with
  | zero => simp [mw_st]
  | succ i =>
    have h := mw_size T cA cB n k v i
    have hlt : T.heap.size < ((mw_st T cA cB n k v i).pushCell (mw_in cB k v)).heap.size := by rw [State.heap_size_pushCell, h]; omega
    simp only [mw_st, State.setCell]
    rw [Array.getElem?_setIfInBounds_self_of_lt hlt]
theorem mw_vm (T : State) (cA cB : ClassId) (n k : Nat) (v : Value) : ∀ i, (mw_st T cA cB n k v i).vm = T.vm
  | 0 => rfl
  | i + 1 => mw_vm T cA cB n k v i
theorem mw_used (T : State) (cA cB : ClassId) (n k : Nat) (v : Value) : ∀ i, (mw_st T cA cB n k v i).slotsUsed = T.slotsUsed + n + i * k
  | 0 => by simp [mw_st, mw_out, arrV]
  | i + 1 => by
    have h := mw_used T cA cB n k v i
    simp [mw_st, h, mw_in, Nat.succ_mul]
    omega
theorem mw_old (T : State) (cA cB : ClassId) (n k : Nat) (v : Value) {a : Nat} (ha : a < T.heap.size) : ∀ i, (mw_st T cA cB n k v i).heap[a]? = T.heap[a]?
  | 0 => State.heap_pushCell_of_lt _ _ ha
  | i + 1 => by
    have h := mw_size T cA cB n k v i
    have hlt : a < (mw_st T cA cB n k v i).heap.size := by rw [h]; omega
    show (((mw_st T cA cB n k v i).pushCell _).setCell T.heap.size _).heap[a]? = _
    rw [State.heap_setCell_other (Nat.ne_of_gt ha), State.heap_pushCell_of_lt (h := hlt)]
    exact mw_old T cA cB n k v ha i
theorem mw_row (T : State) (cA cB : ClassId) (n k : Nat) (v : Value) : ∀ i j, j < i → (mw_st T cA cB n k v i).heap[T.heap.size + 1 + j]? = some (mw_in cB k v)
  | 0, j, h => by omega
  | i + 1, j, h => by
    have hs := mw_size T cA cB n k v i
    show (((mw_st T cA cB n k v i).pushCell _).setCell T.heap.size _).heap[T.heap.size + 1 + j]? = _
    rw [State.heap_setCell_other (show T.heap.size ≠ T.heap.size + 1 + j by omega)]
    by_cases hj : j < i
    · have hlt : T.heap.size + 1 + j < (mw_st T cA cB n k v i).heap.size := by rw [hs]; omega
      rw [State.heap_pushCell_of_lt (h := hlt)]
      exact mw_row T cA cB n k v i j hj
    · rw [show T.heap.size + 1 + j = (mw_st T cA cB n k v i).heap.size by rw [hs]; omega]
      exact State.heap_pushCell_size _ _
theorem mw_setTop (T : State) (g : JFrame) (cA cB : ClassId) (n k : Nat) (v : Value) : ∀ i, mw_st (T.setTop g) cA cB n k v i = (mw_st T cA cB n k v i).setTop g
  | 0 => rfl
  | i + 1 => by simp only [mw_st, mw_setTop T g cA cB n k v i, State.heap_setTop, State.pushCell_setTop, State.setCell_setTop]
section MWW
variable {E : CtlPost} {e : Env} {d : Bool} {acts : List Action} {s : State}
theorem mw_fit {t : FieldType} (h : t.isReference = true) (v : Value) (hv : v = .null ∨ ∃ a, v = .ref a) : fits t v = true := by
  rcases hv with rfl | ⟨a, rfl⟩ <;> cases t <;> simp [FieldType.isReference] at h <;> rfl
theorem mw_make {cA cB cc : ClassId} {kA kB : Class} {t0 ty : FieldType} {n k : Int32} (hk : s.vm.classes[cA]? = some kA) (hkind : kA.kind = .array cB t0) (href : t0.isReference = true)
    (hkB : s.vm.classes[cB]? = some kB) (hkindB : kB.kind = .array cc ty) (hn : ¬ n < 0) (hm : ¬ k < 0)
    (hl1 : ¬ n.toNatClampNeg > e.platform.arrayLengthLimit) (hh1 : ¬ n.toNatClampNeg * componentBytes t0 > e.platform.maxHeapBytes)
    (hl2 : ¬ k.toNatClampNeg > e.platform.arrayLengthLimit) (hh2 : ¬ k.toNatClampNeg * componentBytes ty > e.platform.maxHeapBytes)
    (hdf : fits ty (defaultValue ty) = true)
    (hc : s.heap.size + 1 + n.toNatClampNeg ≤ e.platform.maxCells) (hs : s.slotsUsed + n.toNatClampNeg + n.toNatClampNeg * k.toNatClampNeg ≤ e.platform.maxSlots)
    {Q : Addr → Pre} (hq : ∀ d' acts', Q s.heap.size d' acts' (mw_st s cA cB n.toNatClampNeg k.toNatClampNeg (defaultValue ty) n.toNatClampNeg)) :
    wp (multianewarray.make cA [n, k]) Q E e d acts s := by
  have hfind : ([k].find? (· < 0)) = none := by simp [hm]
  rw [multianewarray.make]
  simp only [wp_bind', Jvm.W.ite, hn, if_false, wp_pure', Jvm.W.theClass, hk, hkind, Option.some.injEq, exists_eq_left']
  refine Jvm.W.newArray_of hk hkind hl1 hh1 (by omega) (by have := Nat.zero_le (n.toNatClampNeg * k.toNatClampNeg); omega) (mw_fit href _ (Or.inl rfl)) (fun acts1 => ?_)
  simp only [hfind]
  rw [ite_self, wp_bind', Std.Legacy.Range.forIn_eq_forIn_range']
  rw [show ([:n.toNatClampNeg] : Std.Legacy.Range).size = n.toNatClampNeg by simp [Std.Legacy.Range.size]]
  show wp (forIn (List.range' 0 n.toNatClampNeg 1) PUnit.unit _) _ E e d acts1 _
  refine wp_forIn_inv (fun xs s' => ∃ i, i ≤ n.toNatClampNeg ∧ xs = List.range' i (n.toNatClampNeg - i) ∧ s' = mw_st s cA cB n.toNatClampNeg k.toNatClampNeg (defaultValue ty) i) _ _ ⟨0, Nat.zero_le _, rfl, by rw [mw_st, mw_out_0]⟩ ?_ ?_
  · rintro x xs s' d' acts' Q' ⟨i, hi, hl, rfl⟩ hnext
    have hlt : i < n.toNatClampNeg := by
      rcases Nat.lt_or_ge i n.toNatClampNeg with h | h
      · exact h
      · rw [show n.toNatClampNeg - i = 0 by omega] at hl
        cases hl
    rw [show n.toNatClampNeg - i = (n.toNatClampNeg - (i + 1)) + 1 by omega, List.range'_succ] at hl
    obtain ⟨rfl, hxs⟩ := List.cons.inj hl
    have f1 := mw_size s cA cB n.toNatClampNeg k.toNatClampNeg (defaultValue ty) x
    have f2 := mw_top s cA cB n.toNatClampNeg k.toNatClampNeg (defaultValue ty) x
    have f3 := mw_vm s cA cB n.toNatClampNeg k.toNatClampNeg (defaultValue ty) x
    have f4 := mw_used s cA cB n.toNatClampNeg k.toNatClampNeg (defaultValue ty) x
    have hmul : x * k.toNatClampNeg + k.toNatClampNeg ≤ n.toNatClampNeg * k.toNatClampNeg := by
      have := Nat.mul_le_mul_right k.toNatClampNeg (show x + 1 ≤ n.toNatClampNeg from hlt)
      rwa [Nat.succ_mul] at this
    simp only [wp_bind']
    rw [multianewarray.make]
    simp only [wp_bind', Jvm.W.ite, hm, if_false, wp_pure', Jvm.W.theClass, f3, hkB, hkindB, Option.some.injEq, exists_eq_left']
    refine Jvm.W.newArray_of (by rw [f3]; exact hkB) hkindB hl2 hh2 (by rw [f1]; omega) (by rw [f4]; omega) hdf (fun acts2 => ?_)
    have hlt0 : s.heap.size < (mw_st s cA cB n.toNatClampNeg k.toNatClampNeg (defaultValue ty) x).heap.size := by rw [f1]; omega
    simp only [wp_bind', Jvm.W.writeLoc, wp_pure']
    refine ⟨mw_out cA n.toNatClampNeg s.heap.size x, by rw [State.heap_pushCell_of_lt (h := hlt0)]; exact f2, by simp [mw_out, arrV], by simp [mw_out, arrV]; exact hlt, ?_, hnext _ _ _ ⟨x + 1, hlt, hxs, ?_⟩⟩
    · simp [mw_out, arrV, State.fitsSlot, State.slotType?, f3, hk, hkind, mw_fit href _ (Or.inr ⟨_, rfl⟩)]
    · rw [mw_st, f1, mw_out_s]
      rfl
  · rintro s' d' acts' ⟨i, hi, hl, rfl⟩
    have hiN : i = n.toNatClampNeg := by
      rcases Nat.lt_or_ge i n.toNatClampNeg with h | h
      · rw [show n.toNatClampNeg - i = (n.toNatClampNeg - (i + 1)) + 1 by omega, List.range'_succ] at hl
        cases hl
      · omega
    subst hiN
    simp only [wp_pure']
    exact hq _ _
end MWW
section MWS
variable {p : Program} {l : Launch} {e : Env} {R : Room} {s : State} {m : MethodId} {args : Array Value} {below : List Frame} {meth : Method} {c : Code} {locs : List Loc} {cells slots : Nat}
theorem mw_stand {T : State} (X : Stand p l e R s m args below meth c T locs cells slots) (cA cB : ClassId) (n k : Nat) (v : Value) :
    ∀ i, Stand p l e R s m args below meth c (mw_st T cA cB n k v i) (locs ++ (List.range i).map fun j => ⟨T.heap.size, j⟩) (cells + 1 + i) (slots + n + i * k)
  | 0 => by
    have h := X.pushed (mw_out cA n T.heap.size 0)
    rw [show (mw_out cA n T.heap.size 0).slots.size = n from arrV_size _ _ _] at h
    simpa [mw_st] using h
  | i + 1 => by
    have Xi := mw_stand X cA cB n k v i
    have f1 := mw_size T cA cB n k v i
    have hlt0 : T.heap.size < (mw_st T cA cB n k v i).heap.size := by rw [f1]; omega
    have hcell : ((mw_st T cA cB n k v i).pushCell (mw_in cB k v)).heap[T.heap.size]? = some (mw_out cA n T.heap.size i) := by rw [State.heap_pushCell_of_lt (h := hlt0)]; exact mw_top T cA cB n k v i
    have h := (Xi.pushed (mw_in cB k v)).stored hcell i (.ref (T.heap.size + 1 + i))
    rw [show (mw_in cB k v).slots.size = k by simp [mw_in], mw_out_s] at h
    have e2 : (locs ++ (List.range (i + 1)).map fun j => (⟨T.heap.size, j⟩ : Loc)) = (locs ++ (List.range i).map fun j => (⟨T.heap.size, j⟩ : Loc)) ++ [⟨T.heap.size, i⟩] := by simp [List.range_succ, List.append_assoc]
    rw [e2, show slots + n + (i + 1) * k = slots + n + i * k + k by rw [Nat.succ_mul]; omega]
    exact h
theorem mw_step {T : State} (X : Stand p l e R s m args below meth c T locs cells slots) (hexec : p.tables.exec = Jvm.exec) {own : String} {index : Nat} {ty : FieldType}
    (hown : s.vm.findClass own = some m.cls) (hclink : (Cond.classLink own index ("[" ++ (FieldType.array ty).toString)).before args s = true)
    (hover : (Cond.arrayOver (.array ty)).before args s = true) (harr : (Cond.arrayClass ty).before args s = true)
    {g : JFrame} (hg : g.method = m) (hdg : decode c.code g.pc = .ok (.multianewarray index 2, 4)) {n k : Int32} {rest : List Value} (hstack : g.stack = .int k :: .int n :: rest)
    (hn : ¬ n < 0) (hk : ¬ k < 0) (hb1 : n.toNatClampNeg * 4 ≤ 536870912) (hb2 : k.toNatClampNeg * componentBytes ty ≤ 536870912) (hb3 : k.toNatClampNeg ≤ 536870912) (hdf : fits ty (defaultValue ty) = true)
    (hcells : cells + (1 + n.toNatClampNeg) ≤ R.cells) (hslots : slots + (n.toNatClampNeg + n.toNatClampNeg * k.toNatClampNeg) ≤ R.slots) :
    ∃ (vm₁ : Vm) (cA cB : ClassId), s.vm.findClass ("[" ++ (FieldType.array ty).toString) = some cA ∧ s.vm.findClass (FieldType.array ty).toString = some cB ∧
      Stand p l e R s m args below meth c (mw_st (T.setVm vm₁) cA cB n.toNatClampNeg k.toNatClampNeg (defaultValue ty) n.toNatClampNeg) (locs ++ (List.range n.toNatClampNeg).map fun j => ⟨T.heap.size, j⟩) (cells + 1 + n.toNatClampNeg) (slots + n.toNatClampNeg + n.toNatClampNeg * k.toNatClampNeg) ∧
      ∀ target, Steps p.tables e below ((mw_st (T.setVm vm₁) cA cB n.toNatClampNeg k.toNatClampNeg (defaultValue ty) n.toNatClampNeg).setTop { g with pc := g.pc + 4, stack := .ref T.heap.size :: rest }) target → Steps p.tables e below (T.setTop g) target := by
  subst hg
  have hpl : e.platform.magicAccessors = ({} : Platform).magicAccessors := by rw [X.admits.platform]
  obtain ⟨cB, cA, kA, hB, -, hkA, hkindA, hA⟩ := arrayOverA_spec hover
  obtain ⟨cB', kB, cc, hB', hkB, hkindB⟩ := Cond.arrayClass_spec harr
  obtain rfl : cB' = cB := Option.some.inj (hB'.symm.trans hB)
  obtain ⟨c0, hfc0, hcl⟩ := Cond.classLink_spec hown hclink e.platform hpl
  obtain rfl : c0 = cA := Option.some.inj (hfc0.symm.trans hA)
  obtain ⟨hg₁, hwarm₁, hready₁⟩ := State.classEntry (e := e) X.warmed hcl
  generalize T.vm.noted g.method.cls index (.cls c0) = vm₁ at hg₁ hwarm₁ hready₁
  obtain ⟨kA₁, hkA₁, heA⟩ := hwarm₁.alike.2.2 _ _ hkA
  obtain ⟨kB₁, hkB₁, heB⟩ := hwarm₁.alike.2.2 _ _ hkB
  have X₁ := X.noted hwarm₁
  obtain ⟨hr1, hr2⟩ := X.roomAbove hcells hslots
  refine ⟨vm₁, c0, cB', hA, hB, mw_stand X₁ c0 cB' _ _ _ _, fun target hrest => ?_⟩
  have hl1 : ¬ n.toNatClampNeg > e.platform.arrayLengthLimit := by rw [Launch.admits_arrayLengthLimit X.admits]; omega
  have hh1 : ¬ n.toNatClampNeg * componentBytes (.array ty) > e.platform.maxHeapBytes := by
    rw [Launch.admits_maxHeapBytes X.admits]; show ¬ n.toNatClampNeg * 4 > 536870912; omega
  have hl2 : ¬ k.toNatClampNeg > e.platform.arrayLengthLimit := by rw [Launch.admits_arrayLengthLimit X.admits]; omega
  have hh2 : ¬ k.toNatClampNeg * componentBytes ty > e.platform.maxHeapBytes := by rw [Launch.admits_maxHeapBytes X.admits]; omega
  jvm_step X.here [hexec, hdg]
  simp only [multianewarray.sem, wp_bind', Jvm.W.resolveClassAt_links (State.method?_setTop g X.here.top) hg₁]
  rw [Jvm.W.popN, if_neg (by decide)]
  refine ⟨g, State.topJava?_setTop' (s := T.setVm vm₁) g X.here.top, [.int n, .int k], rest, rfl, hstack, ?_⟩
  simp only [List.mapM_cons, List.mapM_nil, wp_bind', wp_pure']
  refine mw_make (kA := kA₁) (kB := kB₁) (cB := cB') (cc := cc) (t0 := .array ty) (ty := ty) hkA₁ (by rw [heA]; exact hkindA) rfl hkB₁ (by rw [heB]; exact hkindB) hn hk hl1 hh1 hl2 hh2 hdf (by show T.heap.size + 1 + _ ≤ _; omega) (by show T.slotsUsed + _ + _ ≤ _; omega) (fun d' acts' => ?_)
  have XF := mw_stand X₁ c0 cB' n.toNatClampNeg k.toNatClampNeg (defaultValue ty) n.toNatClampNeg
  have eS : ((T.setTop g).setVm vm₁).setTop { g with stack := rest } = (T.setVm vm₁).setTop { g with stack := rest } := by
    show ((T.setVm vm₁).setTop g).setTop _ = _
    rw [State.setTop_setTop]
  rw [eS, mw_setTop]
  simp only [wp_bind', Jvm.W.mark, Jvm.W.pushRef, State.topJava?_setTop' _ XF.here.top, Option.some.injEq, exists_eq_left', State.setTop_setTop, State.heap_setTop]
  intro acts
  simp [jvm, XF.here.top]
  exact hrest
end MWS
