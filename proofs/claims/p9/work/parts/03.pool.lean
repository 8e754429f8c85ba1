/-! THE POOL: all cells that a method knows, by their addresses (L), and what stands there (f). A callee takes the whole pool of its caller; nothing is cut out. -/
def pw_T (cy : Nat → ClassId) : List (ClassId × FieldType) := [(cy 0, .byte), (cy 1, .int), (cy 2, .long), (cy 3, .boolean), (cy 4, .object RX3), (cy 5, .object RX11), (cy 6, .array .byte), (cy 7, .array .int)]
/-- an array class over arrays of t is there -/
def pw_AA (t : FieldType) (U : State) : Prop := (Cond.arrayOver (.array t)).before #[] U = true
theorem pw_AA.moved {t : FieldType} {u U : State} (hvm : u.vm.Alike U.vm) (h : pw_AA t u) : pw_AA t U := by
  obtain ⟨comp, c, k, h1, h2, h3, h4, h5⟩ := arrayOverA_spec h
  obtain ⟨k', hk', he⟩ := hvm.2.2 _ _ h3
  have hi : (U.vm.classes.findIdx? fun (x : Class) => match x.kind with | .array component _ => component == comp | _ => false) = some c := by
    have b2 := (va_idx_bare u.vm comp).trans h2
    first | rw [hvm.bare_eq] at b2 | rw [← hvm.bare_eq] at b2
    exact (va_idx_bare U.vm comp).symm.trans b2
  have hkind : k'.kind = .array comp (.array t) := by rw [he]; exact h4
  have f1 : U.vm.findClass (FieldType.array t).toString = some comp := by rw [hvm.findClass]; exact h1
  have f2 : U.vm.findClass ("[" ++ (FieldType.array t).toString) = some c := by rw [hvm.findClass]; exact h5
  unfold pw_AA Cond.before Cond.holds
  simp only [Cond.value]
  rw [f1, Option.bind_some]
  refine (congrArg (fun o : Option Nat => (o.bind (fun c => (U.vm.classes[c]?).map fun (k : Class) => match k.kind with | .array _ ty => decide (ty = FieldType.array t) && decide (U.vm.findClass ("[" ++ (FieldType.array t).toString) = some c) | _ => false) == some true)) hi).trans ?_
  simp [hk', hkind, f2]
/-- what the tables say, beside the words of a method: classes, array classes, private members of nest mates, arrays over a class -/
def pw_G (D : va_G) (cy : Nat → ClassId) (U : State) : Prop := va_K D vwCl (pw_T cy) U ∧
  (va_Nw (.methodLinkNest RX12 11 yX8_init RX12) U ∧ va_Nw (.methodLinkNest RX12 18 yX9_init RX12) U ∧ va_Nw (.methodLinkNest RX1 32 yX9_init RX12) U ∧ va_Nw (.methodLinkNest RX6 361 yX3_init RX12) U) ∧ va_AO RX3 U ∧ va_AO RX11 U ∧ pw_AA .byte U ∧ pw_AA .int U
theorem pw_G.warm {D : va_G} {cy : Nat → ClassId} {s U : State} (hW : s.WarmedH U.vm) (h : pw_G D cy s) : pw_G D cy U :=
  ⟨va_K.moved hW.alike h.1, ⟨va_Nw.warmM hW h.2.1.1, va_Nw.warmM hW h.2.1.2.1, va_Nw.warmM hW h.2.1.2.2.1, va_Nw.warmM hW h.2.1.2.2.2⟩, va_AO.moved hW.alike h.2.2.1, va_AO.moved hW.alike h.2.2.2.1, pw_AA.moved hW.alike h.2.2.2.2.1, pw_AA.moved hW.alike h.2.2.2.2.2⟩
theorem pw_G.same {D : va_G} {cy : Nat → ClassId} {s U : State} (hv : s.vm = U.vm) (h : pw_G D cy s) : pw_G D cy U := by
  have ha : s.vm.Alike U.vm := by rw [← hv]; exact Vm.Alike.refl s.vm
  exact ⟨va_K.moved ha h.1, ⟨va_Nw.same rfl hv h.2.1.1, va_Nw.same rfl hv h.2.1.2.1, va_Nw.same rfl hv h.2.1.2.2.1, va_Nw.same rfl hv h.2.1.2.2.2⟩, va_AO.moved ha h.2.2.1, va_AO.moved ha h.2.2.2.1, pw_AA.moved ha h.2.2.2.2.1, pw_AA.moved ha h.2.2.2.2.2⟩
/-- the pool at a point of a walk -/
def pw_W (D : va_G) (A : Nat → Prop) (H0 : Heap) (L : List Nat) (f : Nat → va_E) (H : Heap) (locs : List Loc) : Prop :=
  va_P D vwCl (va_pl L f) H ∧ va_D A (va_pl L f) ∧ va_S A H0 H locs ∧ ∀ q, H0.size ≤ q → A q
/-- a method's start and what it leaves -/
def pw_Pc (D : va_G) (cy : Nat → ClassId) (av : List Value) (sz : Nat) (L : List Nat) (f : Nat → va_E) : Array Value → State → Prop :=
  va_Pc av (fun U => U.heap.size = sz ∧ pw_G D cy U ∧ va_P D vwCl (va_pl L f) U.heap ∧ va_D (fun _ => True) (va_pl L f))
def pw_B (D : va_G) (A : Nat → Prop) : List Nat × (Nat → va_E) → State → Prop := fun u t => va_P D vwCl (va_pl u.1 u.2) t.heap ∧ va_D A (va_pl u.1 u.2)
def pw_A (L : List Nat) (f : Nat → va_E) (sz : Nat) : Nat → Prop := va_A (va_pl L f) sz
theorem pw_blind {D : va_G} {cy : Nat → ClassId} {av : List Value} {sz : Nat} {L : List Nat} {f : Nat → va_E} : FrameBlind (pw_Pc D cy av sz L f) := by
  intro a U g mk q
  obtain ⟨q0, q1, qG, qP, qD⟩ := q
  exact ⟨q0, q1, pw_G.same (s := U) (U := U.calling g mk a) rfl qG, qP, qD⟩
/-- at the entry of a method -/
theorem pw_start {D : va_G} {cy : Nat → ClassId} {sz : Nat} {L : List Nat} {f : Nat → va_E} {s : State} (hsz : s.heap.size = sz) (hP : va_P D vwCl (va_pl L f) s.heap) (hD : va_D (fun _ => True) (va_pl L f)) : pw_W D (pw_A L f sz) s.heap L f s.heap [] :=
  ⟨hP, hD.self, va_S.rf, fun q h => Or.inr (by rw [← hsz]; exact h)⟩
section PW
variable {p : Program} {l : Launch} {e : Env} {R : Room} {s : State} {m : MethodId} {args : Array Value} {below : List Frame} {meth : Method} {c : Code} {H : Heap} {locs : List Loc} {cells slots : Nat} {Q : State → Prop}
variable {cc : ByteArray} {pc : Nat} {ls : Array Slot} {rest : List Value} {D : va_G} {cy : Nat → ClassId} {A : Nat → Prop} {a : Nat} {H0 : Heap} {L : List Nat} {f : Nat → va_E}
theorem pw_nd (hw : pw_W D A H0 L f H locs) : L.Nodup := by
  refine List.pairwise_iff_getElem.mpr (fun i j hi hj hij he => ?_)
  have h1 : (va_pl L f)[i]? = some (L[i], f L[i]) := by simp [va_pl, hi]
  have h2 : (va_pl L f)[j]? = some (L[j], f L[j]) := by simp [va_pl, hj]
  have := hw.2.1.1 i j _ _ h1 h2 he
  omega
theorem pw_lt (hw : pw_W D A H0 L f H locs) (ha : a ∈ L) : a < H.size := va_pl_lt (X := []) hw.1 ha
theorem pw_get (hexec : p.tables.exec = Jvm.exec) (hb : c.code = cc) {own ref C : String} {T : u_T} {N ci index : Nat} {Ts : List Cond} (hts : ∀ w ∈ Ts, w.before args s = true) (hin : ∀ w ∈ u_ws C T N, w ∈ Ts) (hown : s.vm.findClass own = some m.cls) (hG : pw_G D cy s) (hw : pw_W D A H0 L f H locs) (ha : a ∈ L) {fs : List Value} (he : f a = .inr (ci, fs)) (hc : vwCl[ci]? = some (C, T, N)) (k : Nat) (hk : k < N) (hlink : (Cond.fieldLink own index ref (T k).2.1 (T k).2.2.1).before args s = true) (hsame : ∀ x, s.fieldFound? (T k).1 (T k).2.1 (T k).2.2.1 = some x → s.fieldFound? ref (T k).2.1 (T k).2.2.1 = some x) {v : Value} (hv : fs[k]? = some v) (hdg : decode cc pc = .ok (.getfield index, 3))
    (kk : W p l e R s m args below meth c H locs cells slots Q (F0 m (pc + 3) ls (v :: rest))) : W p l e R s m args below meth c H locs cells slots Q (F0 m pc ls (.ref a :: rest)) := by
  obtain ⟨k0, hk0⟩ := va_pl_get (X := []) (f := f) ha
  rw [he] at hk0
  exact va_get hexec hb hts hin hown hG.1 hw.1 k0 hk0 hc k hk hlink hsame hv hdg kk
theorem pw_set {k0 : Nat} {e1 : va_E} {H1 : Heap} {locs1 : List Loc} (hw : pw_W D A H0 L f H locs) (ha : a ∈ L) (hk0 : (va_pl L f)[k0]? = some (a, f a)) (hP : va_P D vwCl ((va_pl L f).set k0 (a, e1)) H1) (hD : va_D A ((va_pl L f).set k0 (a, e1))) (hS : va_S A H0 H1 locs1) : pw_W D A H0 L (va_up f a e1) H1 locs1 := by
  have hs : (va_pl L f).set k0 (a, e1) = va_pl L (va_up f a e1) := va_pl_set (X := []) hw.2.1 ha hk0
  rw [hs] at hP hD
  exact ⟨hP, hD, hS, hw.2.2.2⟩
theorem pw_put (hexec : p.tables.exec = Jvm.exec) (hb : c.code = cc) {own ref C : String} {T : u_T} {N ci index : Nat} {Ts : List Cond} (hts : ∀ w ∈ Ts, w.before args s = true) (hin : ∀ w ∈ u_ws C T N, w ∈ Ts) (ty0 : Nat → FieldType) (hty : ∀ k, k < N → parseFieldDescriptor (T k).2.2.1 = some (ty0 k)) (hnm : ∀ a, a < N → ∀ b, b < N → a ≠ b → (T a).2.1 ≠ (T b).2.1) (hown : s.vm.findClass own = some m.cls) (hG : pw_G D cy s) (hw : pw_W D A H0 L f H locs) (ha : a ∈ L) {fs : List Value} (he : f a = .inr (ci, fs)) (hc : vwCl[ci]? = some (C, T, N)) (k : Nat) (hk : k < N) (hlink : (Cond.fieldLink own index ref (T k).2.1 (T k).2.2.1).before args s = true) (hsame : ∀ x, s.fieldFound? (T k).1 (T k).2.1 (T k).2.2.1 = some x → s.fieldFound? ref (T k).2.1 (T k).2.2.1 = some x) (hfin : (T k).2.2.2 = false) {ty : FieldType} {v : Value} (hd : parseFieldDescriptor (T k).2.2.1 = some ty) (hn : narrow ty v = v) (hfit : fits ty v = true) (hl : k < fs.length)
    (hdg : decode cc pc = .ok (.putfield index, 3)) (kk : ∀ (H1 : Heap) (locs1 : List Loc), pw_W D A H0 L (va_up f a (.inr (ci, fs.set k v))) H1 locs1 → W p l e R s m args below meth c H1 locs1 cells slots Q (F0 m (pc + 3) ls rest)) : W p l e R s m args below meth c H locs cells slots Q (F0 m pc ls (v :: .ref a :: rest)) := by
  obtain ⟨k0, hk0⟩ := va_pl_get (X := []) (f := f) ha
  have hk1 := hk0
  rw [he] at hk0
  exact va_put hexec hb hts hin ty0 hty hnm hown hG.1 hw.1 hw.2.1 hw.2.2.1 k0 hk0 hc k hk hlink hsame hfin hd hn hfit hl hdg (fun H1 locs1 hP hD hS => kk H1 locs1 (pw_set hw ha hk1 hP hD hS))
theorem pw_putF (hexec : p.tables.exec = Jvm.exec) (hb : c.code = cc) {own ref C : String} {T : u_T} {N ci index : Nat} {Ts : List Cond} (hts : ∀ w ∈ Ts, w.before args s = true) (hin : ∀ w ∈ u_ws C T N, w ∈ Ts) (ty0 : Nat → FieldType) (hty : ∀ k, k < N → parseFieldDescriptor (T k).2.2.1 = some (ty0 k)) (hnm : ∀ a, a < N → ∀ b, b < N → a ≠ b → (T a).2.1 ≠ (T b).2.1) (hown : s.vm.findClass own = some m.cls) (hG : pw_G D cy s) (hw : pw_W D A H0 L f H locs) (ha : a ∈ L) {fs : List Value} (he : f a = .inr (ci, fs)) (hc : vwCl[ci]? = some (C, T, N)) (k : Nat) (hk : k < N) (hlink : (Cond.fieldLink own index ref (T k).2.1 (T k).2.2.1).before args s = true) (hsame : ∀ x, s.fieldFound? (T k).1 (T k).2.1 (T k).2.2.1 = some x → s.fieldFound? ref (T k).2.1 (T k).2.2.1 = some x) (hfin : (T k).2.2.2 = true) (hin2 : meth.name = "<init>") (hdecl : (T k).1 = own) {ty : FieldType} {v : Value} (hd : parseFieldDescriptor (T k).2.2.1 = some ty) (hn : narrow ty v = v) (hfit : fits ty v = true) (hl : k < fs.length)
    (hdg : decode cc pc = .ok (.putfield index, 3)) (kk : ∀ (H1 : Heap) (locs1 : List Loc), pw_W D A H0 L (va_up f a (.inr (ci, fs.set k v))) H1 locs1 → W p l e R s m args below meth c H1 locs1 cells slots Q (F0 m (pc + 3) ls rest)) : W p l e R s m args below meth c H locs cells slots Q (F0 m pc ls (v :: .ref a :: rest)) := by
  obtain ⟨k0, hk0⟩ := va_pl_get (X := []) (f := f) ha
  have hk1 := hk0
  rw [he] at hk0
  exact va_putF hexec hb hts hin ty0 hty hnm hown hG.1 hw.1 hw.2.1 hw.2.2.1 k0 hk0 hc k hk hlink hsame hfin hin2 hdecl hd hn hfit hl hdg (fun H1 locs1 hP hD hS => kk H1 locs1 (pw_set hw ha hk1 hP hD hS))
theorem pw_push {q : Nat} {e1 : va_E} {H1 : Heap} {locs1 : List Loc} (hw : pw_W D A H0 L f H locs) (hP : va_P D vwCl (va_pl L f ++ [(q, e1)]) H1) (hD : va_D A (va_pl L f ++ [(q, e1)])) (hS : va_S A H0 H1 locs1) : q ∉ L ∧ pw_W D A H0 (L ++ [q]) (va_up f q e1) H1 locs1 := by
  have hq : q ∉ L := va_pl_fresh2 (X := []) hD
  rw [va_pl_push hq] at hP hD
  exact ⟨hq, hP, hD, hS, hw.2.2.2⟩
theorem pw_new (hexec : p.tables.exec = Jvm.exec) (hb : c.code = cc) {own C : String} {T : u_T} {N ci index : Nat} {Ts : List Cond} (hts : ∀ w ∈ Ts, w.before args s = true) (hin : ∀ w ∈ u_ws C T N, w ∈ Ts) (ty : Nat → FieldType) (hty : ∀ k, k < N → parseFieldDescriptor (T k).2.2.1 = some (ty k)) (hown : s.vm.findClass own = some m.cls) (hcl : (Cond.classLink own index C).before args s = true) (hinst : (Cond.instantiable C N).before args s = true) (hini : (Cond.initialized C).before args s = true)
    (hG : pw_G D cy s) (hw : pw_W D A H0 L f H locs) (hc : vwCl[ci]? = some (C, T, N)) {fs : List Value} (hfs : ∀ j, j < N → defaultValue (ty j) = vp_V fs j) (hcells : cells + 1 ≤ R.cells) (hslots : slots + N ≤ R.slots) (hdg : decode cc pc = .ok (.new index, 3))
    (kk : ∀ (q : Nat) (H1 : Heap), q ∉ L → pw_W D A H0 (L ++ [q]) (va_up f q (.inr (ci, fs))) H1 locs → W p l e R s m args below meth c H1 locs (cells + 1) (slots + N) Q (F0 m (pc + 3) ls (.ref q :: rest))) : W p l e R s m args below meth c H locs cells slots Q (F0 m pc ls rest) :=
  va_new hexec hb hts hin ty hty hown hcl hinst hini hG.1 hw.1 hw.2.1 hw.2.2.1 hw.2.2.2 hc hfs hcells hslots hdg (fun q H1 hP hD hS => by
    obtain ⟨h1, h2⟩ := pw_push hw hP hD hS
    exact kk q H1 h1 h2)
/-- an array of whole numbers: its class is the one that the pool names -/
theorem pw_newa (hexec : p.tables.exec = Jvm.exec) (hb : c.code = cc) {atype : ArrayType} {ty : FieldType} {t0 : Nat} {cA : ClassId} (harr : (Cond.arrayClass (newarray.typeOf atype)).before args s = true) (hty : newarray.typeOf atype = ty) (hG : pw_G D cy s) (ht : (pw_T cy)[t0]? = some (cA, ty)) (hra : ∀ U : State, va_RA U cA ty → U.vm.findClass ("[" ++ ty.toString) = some cA) (hw : pw_W D A H0 L f H locs)
    {n : Int32} {N' : Nat} {a0 : vp_A} (ha : ∀ cA : ClassId, vp_cell cA a0 = arrV cA N' (fun _ => defaultValue ty)) (hn : ¬ n < 0) (hN : n.toNatClampNeg = N') (hbytes : N' * componentBytes ty ≤ 536870912) (hcells : cells + 1 ≤ R.cells) (hslots : slots + N' ≤ R.slots) (hdg : decode cc pc = .ok (.newarray atype, 2))
    (kk : ∀ (q : Nat) (H1 : Heap), q ∉ L → pw_W D A H0 (L ++ [q]) (va_up f q (.inl (cA, a0))) H1 locs → W p l e R s m args below meth c H1 locs (cells + 1) (slots + N') Q (F0 m (pc + 2) ls (.ref q :: rest))) : W p l e R s m args below meth c H locs cells slots Q (F0 m pc ls (.int n :: rest)) := by
  subst hty
  refine va_newaK hexec hb harr rfl hdg rfl hn hN hbytes hcells hslots rfl fun H1 cA1 e1 z1 o1 hAr hNm => ?_
  have hcA : cA1 = cA := Option.some.inj (hNm.symm.trans (hra s (hG.1.2 t0 _ ht).2))
  subst hcA
  have hk : ∀ (k : Nat) (x : Nat × va_E), (va_pl L f)[k]? = some x → H1[x.1]? = H[x.1]? := fun k x hx => o1 x.1 ((hw.1 k x hx).lt)
  have hP1 : va_P D vwCl (va_pl L f ++ [(H.size, .inl (cA1, a0))]) H1 := (hw.1.kept hk).app (fun k x hx => by
    have hz : k < 1 := (List.getElem?_eq_some_iff.mp hx).1
    rw [show k = 0 by omega] at hx
    cases hx
    show H1[H.size]? = some (vp_cell _ _)
    rw [ha]
    exact e1)
  obtain ⟨h1, h2⟩ := pw_push hw hP1 (hw.2.1.push hw.1 rfl (hw.2.2.2 _ hw.2.2.1.1)) ⟨Nat.le_trans hw.2.2.1.1 (by omega), fun x h1 h2 => (o1 x (Nat.lt_of_lt_of_le h1 hw.2.2.1.1)).trans (hw.2.2.1.2.1 x h1 h2), hw.2.2.1.2.2⟩
  exact kk H.size H1 h1 h2
end PW
/-! WHAT A CONSTRUCTOR DOES: since (L0, f0) the object h0 holds fs, the cells 'news' came, nothing else changed. -/
def pw_N (h0 ci : Nat) (L0 : List Nat) (f0 : Nat → va_E) (L : List Nat) (f : Nat → va_E) (fs : List Value) (news : List (Nat × va_E)) : Prop :=
  L = L0 ++ news.map Prod.fst ∧ f h0 = .inr (ci, fs) ∧ (∀ x ∈ news, f x.1 = x.2) ∧ (∀ x ∈ L0, x ≠ h0 → f x = f0 x) ∧ h0 ∈ L0
theorem pw_N.rf {h0 ci : Nat} {L0 : List Nat} {f0 : Nat → va_E} {fs : List Value} (h : h0 ∈ L0) (he : f0 h0 = .inr (ci, fs)) : pw_N h0 ci L0 f0 L0 f0 fs [] :=
  ⟨(List.append_nil L0).symm, he, fun _ q => absurd q List.not_mem_nil, fun _ _ _ => rfl, h⟩
theorem pw_N.mem {h0 ci : Nat} {L0 L : List Nat} {f0 f : Nat → va_E} {fs : List Value} {news : List (Nat × va_E)} (h : pw_N h0 ci L0 f0 L f fs news) : h0 ∈ L := by
  rw [h.1]; exact List.mem_append_left _ h.2.2.2.2
theorem pw_N.apart {h0 ci : Nat} {L0 L : List Nat} {f0 f : Nat → va_E} {fs : List Value} {news : List (Nat × va_E)} (h : pw_N h0 ci L0 f0 L f fs news) (hd : L.Nodup) {x : Nat × va_E} (hx : x ∈ news) : x.1 ∉ L0 ∧ x.1 ∈ L := by
  have h1 : x.1 ∈ news.map Prod.fst := List.mem_map.mpr ⟨x, hx, rfl⟩
  rw [h.1] at hd ⊢
  refine ⟨fun h2 => ?_, List.mem_append_right _ h1⟩
  exact (List.nodup_append.mp hd).2.2 x.1 h2 x.1 h1 rfl
theorem pw_N.put {h0 ci : Nat} {L0 L : List Nat} {f0 f : Nat → va_E} {fs gs : List Value} {news : List (Nat × va_E)} (h : pw_N h0 ci L0 f0 L f fs news) (hd : L.Nodup) : pw_N h0 ci L0 f0 L (va_up f h0 (.inr (ci, gs))) gs news := by
  refine ⟨h.1, va_up_self _ _ _, fun x hx => ?_, fun x hx hne => ?_, h.2.2.2.2⟩
  · rw [va_up_ne _ _ (fun q => (h.apart hd hx).1 (by rw [q]; exact h.2.2.2.2))]
    exact h.2.2.1 x hx
  · rw [va_up_ne _ _ hne]
    exact h.2.2.2.1 x hx hne
theorem pw_N.new {h0 ci q : Nat} {e : va_E} {L0 L : List Nat} {f0 f : Nat → va_E} {fs : List Value} {news : List (Nat × va_E)} (h : pw_N h0 ci L0 f0 L f fs news) (hq : q ∉ L) : pw_N h0 ci L0 f0 (L ++ [q]) (va_up f q e) fs (news ++ [(q, e)]) := by
  have hne : ∀ x ∈ L, x ≠ q := fun x hx hxq => hq (hxq ▸ hx)
  refine ⟨by rw [h.1, List.map_append, List.append_assoc]; rfl, ?_, fun x hx => ?_, fun x hx hx0 => ?_, h.2.2.2.2⟩
  · rw [va_up_ne _ _ (hne _ h.mem)]; exact h.2.1
  · rcases List.mem_append.mp hx with h1 | h1
    · rw [va_up_ne _ _ (hne _ (by rw [h.1]; exact List.mem_append_right _ (List.mem_map.mpr ⟨x, h1, rfl⟩)))]
      exact h.2.2.1 x h1
    · rw [List.mem_singleton.mp h1]; exact va_up_self _ _ _
  · rw [va_up_ne _ _ (hne _ (by rw [h.1]; exact List.mem_append_left _ hx))]
    exact h.2.2.2.1 x hx hx0
/-- an object that came, filled by its own constructor -/
theorem pw_N.call {h0 ci q cj : Nat} {e : va_E} {L0 L L2 : List Nat} {f0 f f2 : Nat → va_E} {fs gs : List Value} {news news2 : List (Nat × va_E)} (h : pw_N h0 ci L0 f0 L f fs (news ++ [(q, e)])) (h2 : pw_N q cj L f L2 f2 gs news2) (hd : L2.Nodup) : pw_N h0 ci L0 f0 L2 f2 fs ((news ++ [(q, .inr (cj, gs))]) ++ news2) := by
  have hdL : L.Nodup := by rw [h2.1] at hd; exact (List.nodup_append.mp hd).1
  have hq0 : q ∉ L0 := (h.apart hdL (x := (q, e)) (List.mem_append_right _ (List.mem_singleton.mpr rfl))).1
  have hdn : (L0 ++ (news.map Prod.fst ++ [q])).Nodup := by
    have h3 := hdL
    rw [h.1, List.map_append] at h3
    exact h3
  have hqn : ∀ x ∈ news, x.1 ≠ q := fun x hx hxq => by
    have h4 := (List.nodup_append.mp (List.nodup_append.mp hdn).2.1).2.2
    exact h4 x.1 (List.mem_map.mpr ⟨x, hx, rfl⟩) q (List.mem_singleton.mpr rfl) hxq
  refine ⟨?_, ?_, fun x hx => ?_, fun x hx hx0 => ?_, h.2.2.2.2⟩
  · rw [h2.1, h.1]; simp
  · rw [h2.2.2.2.1 h0 h.mem (fun z => hq0 (z ▸ h.2.2.2.2))]; exact h.2.1
  · rcases List.mem_append.mp hx with h1 | h1
    · rcases List.mem_append.mp h1 with h1 | h1
      · rw [h2.2.2.2.1 x.1 (by rw [h.1]; exact List.mem_append_right _ (List.mem_map.mpr ⟨x, List.mem_append_left _ h1, rfl⟩)) (hqn x h1)]
        exact h.2.2.1 x (List.mem_append_left _ h1)
      · rw [List.mem_singleton.mp h1]; exact h2.2.1
    · exact h2.2.2.1 x h1
  · rw [h2.2.2.2.1 x (by rw [h.1]; exact List.mem_append_left _ hx) (fun z => hq0 (z ▸ hx))]
    exact h.2.2.2.1 x hx hx0
section PWN
variable {p : Program} {l : Launch} {e : Env} {R : Room} {s : State} {m : MethodId} {args : Array Value} {below : List Frame} {meth : Method} {c : Code} {H : Heap} {locs : List Loc} {cells slots : Nat} {Q : State → Prop}
variable {D : va_G} {cy : Nat → ClassId} {sz : Nat} {L0 L : List Nat} {f0 f : Nat → va_E} {av : List Value}
/-- the end of a constructor -/
theorem pw_vret {cc : ByteArray} {S : List Nat × (Nat → va_E) → Prop} (hexec : p.tables.exec = Jvm.exec) (hb : c.code = cc) (hr : meth.sig.returnType = none) (hlocks : meth.locks = false) (hsz : s.heap.size = sz) (hw : pw_W D (pw_A L0 f0 sz) s.heap L f H locs) (hp : S (L, f)) {pc : Nat} {ls : Array Slot} (hdg : decode cc pc = .ok (.return_, 1)) :
    W p l e R s m args below meth c H locs cells slots (MQ below (va_Qv S (pw_B D (pw_A L0 f0 sz)) (pw_A L0 f0 sz)) args s cells slots (pw_A L0 f0 sz)) (F0 m pc ls []) :=
  W.vret hexec hb hr (fun t ht hW => ⟨⟨(L, f), rfl, hp, by rw [ht]; exact hw.1, hw.2.1⟩, hw.2.2.1.F ht⟩) hw.2.2.1.2.2 hdg
/-- behind a call that returns nothing -/
theorem pw_callv {pc mc ms : Nat} {ls : Array Slot} {st0 rest : List Value} {a : Array Value} {A : Nat → Prop} {S : List Nat × (Nat → va_E) → Prop} (hw : pw_W D A s.heap L f H locs)
    (hr : va_Run p l e R s m args below meth c H locs cells slots mc ms (F0 m pc ls st0) rest (va_Qv S (pw_B D (pw_A L f H.size)) (pw_A L f H.size) a) (pw_A L f H.size))
    (kk : ∀ (L1 : List Nat) (f1 : Nat → va_E) (H1 : Heap) (locs1 : List Loc), pw_W D A s.heap L1 f1 H1 locs1 → S (L1, f1) → W p l e R s m args below meth c H1 locs1 (cells + mc) (slots + ms) Q (F0 m (pc + 3) ls rest)) : W p l e R s m args below meth c H locs cells slots Q (F0 m pc ls st0) := by
  have hF : ∀ q, pw_A L f H.size q → A q := fun q h => by
    rcases h with ⟨k, e1, h⟩ | h
    · exact hw.2.1.2 k _ h
    · exact hw.2.2.2 q (Nat.le_trans hw.2.2.1.1 h)
  refine va_callv hr hw.2.2.1 (fun q _ h => hF q h) hF (fun u t H1 locs1 ht hvm hp hB hz hk hS => ?_)
  obtain ⟨L1, f1⟩ := u
  obtain ⟨hP1, hD1⟩ := hB
  rw [ht] at hP1
  exact kk L1 f1 H1 locs1 ⟨hP1, hD1.weaken (fun k q _ h => hF q.1 h), hS, hw.2.2.2⟩ hp
/-- what a callee asks of its caller's pool -/
theorem pw_pre {av : List Value} (hG : pw_G D cy s) {A : Nat → Prop} (hw : pw_W D A s.heap L f H locs) : PreS s H (pw_Pc D cy av H.size L f) av :=
  ⟨pw_blind, fun U hU hW => ⟨rfl, by rw [hU], hG.warm hW, by rw [hU]; exact hw.1, hw.2.1.weaken (fun _ _ _ _ => trivial)⟩⟩
end PWN
section PWC
variable {p : Program} {l : Launch} {e : Env} {R : Room} {s : State} {m : MethodId} {args : Array Value} {below : List Frame} {meth : Method} {c : Code} {H : Heap} {locs : List Loc} {cells slots : Nat} {Q : State → Prop}
variable {cc : ByteArray} {pc : Nat} {ls : Array Slot} {rest : List Value} {D : va_G} {cy : Nat → ClassId} {A : Nat → Prop} {h0 ci : Nat} {H0 : Heap} {L0 L : List Nat} {f0 f : Nat → va_E} {fs : List Value} {news : List (Nat × va_E)}
/-- a constructor's own field, final -/
theorem pw_cputF (hexec : p.tables.exec = Jvm.exec) (hb : c.code = cc) {own ref C : String} {T : u_T} {N index : Nat} {Ts : List Cond} (hts : ∀ w ∈ Ts, w.before args s = true) (hin : ∀ w ∈ u_ws C T N, w ∈ Ts) (ty0 : Nat → FieldType) (hty : ∀ k, k < N → parseFieldDescriptor (T k).2.2.1 = some (ty0 k)) (hnm : ∀ a, a < N → ∀ b, b < N → a ≠ b → (T a).2.1 ≠ (T b).2.1) (hown : s.vm.findClass own = some m.cls) (hG : pw_G D cy s) (hw : pw_W D A H0 L f H locs) (hN : pw_N h0 ci L0 f0 L f fs news) (hc : vwCl[ci]? = some (C, T, N)) (k : Nat) (hk : k < N) (hlink : (Cond.fieldLink own index ref (T k).2.1 (T k).2.2.1).before args s = true) (hsame : ∀ x, s.fieldFound? (T k).1 (T k).2.1 (T k).2.2.1 = some x → s.fieldFound? ref (T k).2.1 (T k).2.2.1 = some x) (hfin : (T k).2.2.2 = true) (hin2 : meth.name = "<init>") (hdecl : (T k).1 = own) {v : Value} (hn : narrow (ty0 k) v = v) (hfit : fits (ty0 k) v = true) (hl : k < fs.length)
    (hdg : decode cc pc = .ok (.putfield index, 3)) (kk : ∀ (f1 : Nat → va_E) (H1 : Heap) (locs1 : List Loc), pw_W D A H0 L f1 H1 locs1 → pw_N h0 ci L0 f0 L f1 (fs.set k v) news → W p l e R s m args below meth c H1 locs1 cells slots Q (F0 m (pc + 3) ls rest)) : W p l e R s m args below meth c H locs cells slots Q (F0 m pc ls (v :: .ref h0 :: rest)) :=
  pw_putF hexec hb hts hin ty0 hty hnm hown hG hw hN.mem hN.2.1 hc k hk hlink hsame hfin hin2 hdecl (hty k hk) hn hfit hl hdg (fun H1 locs1 hw1 => kk _ H1 locs1 hw1 (hN.put (pw_nd hw1)))
theorem pw_cput (hexec : p.tables.exec = Jvm.exec) (hb : c.code = cc) {own ref C : String} {T : u_T} {N index : Nat} {Ts : List Cond} (hts : ∀ w ∈ Ts, w.before args s = true) (hin : ∀ w ∈ u_ws C T N, w ∈ Ts) (ty0 : Nat → FieldType) (hty : ∀ k, k < N → parseFieldDescriptor (T k).2.2.1 = some (ty0 k)) (hnm : ∀ a, a < N → ∀ b, b < N → a ≠ b → (T a).2.1 ≠ (T b).2.1) (hown : s.vm.findClass own = some m.cls) (hG : pw_G D cy s) (hw : pw_W D A H0 L f H locs) (hN : pw_N h0 ci L0 f0 L f fs news) (hc : vwCl[ci]? = some (C, T, N)) (k : Nat) (hk : k < N) (hlink : (Cond.fieldLink own index ref (T k).2.1 (T k).2.2.1).before args s = true) (hsame : ∀ x, s.fieldFound? (T k).1 (T k).2.1 (T k).2.2.1 = some x → s.fieldFound? ref (T k).2.1 (T k).2.2.1 = some x) (hfin : (T k).2.2.2 = false) {v : Value} (hn : narrow (ty0 k) v = v) (hfit : fits (ty0 k) v = true) (hl : k < fs.length)
    (hdg : decode cc pc = .ok (.putfield index, 3)) (kk : ∀ (f1 : Nat → va_E) (H1 : Heap) (locs1 : List Loc), pw_W D A H0 L f1 H1 locs1 → pw_N h0 ci L0 f0 L f1 (fs.set k v) news → W p l e R s m args below meth c H1 locs1 cells slots Q (F0 m (pc + 3) ls rest)) : W p l e R s m args below meth c H locs cells slots Q (F0 m pc ls (v :: .ref h0 :: rest)) :=
  pw_put hexec hb hts hin ty0 hty hnm hown hG hw hN.mem hN.2.1 hc k hk hlink hsame hfin (hty k hk) hn hfit hl hdg (fun H1 locs1 hw1 => kk _ H1 locs1 hw1 (hN.put (pw_nd hw1)))
/-- a constructor reads its own field -/
theorem pw_cget (hexec : p.tables.exec = Jvm.exec) (hb : c.code = cc) {own ref C : String} {T : u_T} {N index : Nat} {Ts : List Cond} (hts : ∀ w ∈ Ts, w.before args s = true) (hin : ∀ w ∈ u_ws C T N, w ∈ Ts) (hown : s.vm.findClass own = some m.cls) (hG : pw_G D cy s) (hw : pw_W D A H0 L f H locs) (hN : pw_N h0 ci L0 f0 L f fs news) (hc : vwCl[ci]? = some (C, T, N)) (k : Nat) (hk : k < N) (hlink : (Cond.fieldLink own index ref (T k).2.1 (T k).2.2.1).before args s = true) (hsame : ∀ x, s.fieldFound? (T k).1 (T k).2.1 (T k).2.2.1 = some x → s.fieldFound? ref (T k).2.1 (T k).2.2.1 = some x) {v : Value} (hv : fs[k]? = some v) (hdg : decode cc pc = .ok (.getfield index, 3))
    (kk : W p l e R s m args below meth c H locs cells slots Q (F0 m (pc + 3) ls (v :: rest))) : W p l e R s m args below meth c H locs cells slots Q (F0 m pc ls (.ref h0 :: rest)) :=
  pw_get hexec hb hts hin hown hG hw hN.mem hN.2.1 hc k hk hlink hsame hv hdg kk
theorem pw_cnewa (hexec : p.tables.exec = Jvm.exec) (hb : c.code = cc) {atype : ArrayType} {ty : FieldType} {t0 : Nat} {cA : ClassId} (harr : (Cond.arrayClass (newarray.typeOf atype)).before args s = true) (hty : newarray.typeOf atype = ty) (hG : pw_G D cy s) (ht : (pw_T cy)[t0]? = some (cA, ty)) (hra : ∀ U : State, va_RA U cA ty → U.vm.findClass ("[" ++ ty.toString) = some cA) (hw : pw_W D A H0 L f H locs) (hN : pw_N h0 ci L0 f0 L f fs news)
    {n : Int32} {N' : Nat} {a0 : vp_A} (ha : ∀ cA : ClassId, vp_cell cA a0 = arrV cA N' (fun _ => defaultValue ty)) (hn : ¬ n < 0) (hN' : n.toNatClampNeg = N') (hbytes : N' * componentBytes ty ≤ 536870912) (hcells : cells + 1 ≤ R.cells) (hslots : slots + N' ≤ R.slots) (hdg : decode cc pc = .ok (.newarray atype, 2))
    (kk : ∀ (q : Nat) (L1 : List Nat) (f1 : Nat → va_E) (H1 : Heap), pw_W D A H0 L1 f1 H1 locs → pw_N h0 ci L0 f0 L1 f1 fs (news ++ [(q, .inl (cA, a0))]) → W p l e R s m args below meth c H1 locs (cells + 1) (slots + N') Q (F0 m (pc + 2) ls (.ref q :: rest))) : W p l e R s m args below meth c H locs cells slots Q (F0 m pc ls (.int n :: rest)) :=
  pw_newa hexec hb harr hty hG ht hra hw ha hn hN' hbytes hcells hslots hdg (fun q H1 hq hw1 => kk q _ _ H1 hw1 (hN.new hq))
theorem pw_cnew (hexec : p.tables.exec = Jvm.exec) (hb : c.code = cc) {own C : String} {T : u_T} {N cj index : Nat} {Ts : List Cond} (hts : ∀ w ∈ Ts, w.before args s = true) (hin : ∀ w ∈ u_ws C T N, w ∈ Ts) (ty : Nat → FieldType) (hty : ∀ k, k < N → parseFieldDescriptor (T k).2.2.1 = some (ty k)) (hown : s.vm.findClass own = some m.cls) (hcl : (Cond.classLink own index C).before args s = true) (hinst : (Cond.instantiable C N).before args s = true) (hini : (Cond.initialized C).before args s = true)
    (hG : pw_G D cy s) (hw : pw_W D A H0 L f H locs) (hN : pw_N h0 ci L0 f0 L f fs news) (hc : vwCl[cj]? = some (C, T, N)) {gs : List Value} (hfs : ∀ j, j < N → defaultValue (ty j) = vp_V gs j) (hcells : cells + 1 ≤ R.cells) (hslots : slots + N ≤ R.slots) (hdg : decode cc pc = .ok (.new index, 3))
    (kk : ∀ (q : Nat) (L1 : List Nat) (f1 : Nat → va_E) (H1 : Heap), pw_W D A H0 L1 f1 H1 locs → pw_N h0 ci L0 f0 L1 f1 fs (news ++ [(q, .inr (cj, gs))]) → q ∈ L1 → f1 q = .inr (cj, gs) → W p l e R s m args below meth c H1 locs (cells + 1) (slots + N) Q (F0 m (pc + 3) ls (.ref q :: rest))) : W p l e R s m args below meth c H locs cells slots Q (F0 m pc ls rest) :=
  pw_new hexec hb hts hin ty hty hown hcl hinst hini hG hw hc hfs hcells hslots hdg (fun q H1 hq hw1 => kk q _ _ H1 hw1 (hN.new hq) (List.mem_append_right _ (List.mem_singleton.mpr rfl)) (va_up_self _ _ _))
end PWC
