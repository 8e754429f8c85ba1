/-- the table of handlers, as the tables have it -/
def tw_tab (c : Code) (hs : List (Nat × Nat × Nat × Nat)) : Prop := c.exceptionTable.toList.map (fun h => (h.startPc, h.endPc, h.handlerPc, h.catchType)) = hs
/-! The search through a table whose catch types link (cold or warm). -/
section TW3
variable {e : Env} {s : State} {f : JFrame} {a : Addr}
/-- where the search ends, and the tables that it leaves -/
def tw_Finds (e : Env) (s : State) (f : JFrame) (a : Addr) (xs : List ExceptionTableEntry) (pc : Nat) (vm' : Vm) : Prop :=
  ∀ (Q : Handler → Pre) (E : CtlPost) (d : Bool) (acts : List Action), wp (findHandler.go f a xs) Q E e d acts s ↔ Q (.found pc) d acts (s.setVm vm')
theorem tw_find_yes {x : ExceptionTableEntry} {xs : List ExceptionTableEntry} {k : ClassId} {cell : Cell} (hx : covers x f.pc = true) (h0 : x.catchType ≠ 0)
    (hl : s.vm.ClassLinks e.platform f.method.cls x.catchType k) (hcell : s.heap[a]? = some cell) (hobj : ∀ j, cell.vm ≠ .statics j)
    (hk : ∃ j, s.vm.classes[cell.cls]? = some j) (hc : ∃ j, s.vm.classes[k]? = some j) (hfit : s.vm.assignable cell.cls k = true) :
    tw_Finds e s f a (x :: xs) x.handlerPc (s.vm.noted f.method.cls x.catchType (.cls k)) := by
  intro Q E d acts
  simp only [covers] at hx
  obtain ⟨ha, ht⟩ := (resolveClass_links e.toSetting hl).op (op := VmOp.resolveClass f.method.cls x.catchType) rfl
  have hal : s.vm.Alike (s.vm.noted f.method.cls x.catchType (.cls k)) := (Vm.Alike.refl s.vm).noted _ _ _
  obtain ⟨j1, hj1⟩ := hk
  obtain ⟨j2, hj2⟩ := hc
  obtain ⟨i1, hi1, -⟩ := hal.2.2 _ _ hj1
  obtain ⟨i2, hi2, -⟩ := hal.2.2 _ _ hj2
  have hfit' : (s.vm.noted f.method.cls x.catchType (.cls k)).assignable cell.cls k = true := by rw [hal.assignable]; exact hfit
  simp [findHandler.go, hx, h0, ha, ht, hcell, hobj, hi1, hi2, hfit', VmOp.dirties, VmOp.acts]
theorem tw_caught {tb : Tables} {T target : State} {g : JFrame} {c : Code} {meth : Method} {below : List Frame} (h : At T g.method c below) (hm : T.vm.method? g.method = some meth) (hc : meth.code = some c) {pc : Nat} {vm' : Vm}
    (hfind : tw_Finds e ((T.setTop g).pushFrame (.throwing a)) g a c.exceptionTable.toList pc vm') (hrest : Steps tb e below ((T.setVm vm').setTop { g with pc := pc, stack := [.ref a] }) target) :
    Steps tb e below ((T.setTop g).pushFrame (.throwing a)) target := by
  obtain ⟨hgo, hw⟩ := h.throwing a
  refine Steps.head hgo hw ?_
  have hstep : (stepThrowing e ((T.setTop g).pushFrame (.throwing a)) a (.java g :: T.frames.tail)).1 = ((((T.setTop g).pushFrame (.throwing a)).setVm vm').setFrames (.java { g with pc := pc, stack := [.ref a] } :: T.frames.tail)) := by
    have key : (stepThrowing e ((T.setTop g).pushFrame (.throwing a)) a (.java g :: T.frames.tail)).Is ((((T.setTop g).pushFrame (.throwing a)).setVm vm').setFrames (.java { g with pc := pc, stack := [.ref a] } :: T.frames.tail)) [] := by
      have hm' : ((T.setTop g).pushFrame (.throwing a)).vm.method? g.method = some meth := by rw [Stand.throwing_vm]; exact hm
      simp only [stepThrowing, searchFrame, vmDo]
      generalize hr : Sem.go _ e false [] ((T.setTop g).pushFrame (.throwing a)) = res
      obtain ⟨as, rfl, ha⟩ := Sem.eq_ok_of hr (a := Handler.found pc) (s' := ((T.setTop g).pushFrame (.throwing a)).setVm vm') (acts' := []) (by simp [Jvm.W.findHandler_eq hm' hc, hfind _ _ _ _])
      exact ⟨rfl, ha⟩
    exact key.1
  rw [stepThread_throwing (frames_entered h.top _), hstep]
  obtain ⟨g₀, hg⟩ := Option.isSome_iff_exists.mp h.top
  obtain ⟨r, hr⟩ := State.topJava?_eq_some.mp hg
  have hr' : (T.setVm vm').frames = .java g₀ :: r := hr
  rw [State.setTop_of_frames _ hr'] at hrest
  have hsf : ∀ (u : State) (F G : List Frame), ((u.setFrames F).setVm vm').setFrames G = (u.setVm vm').setFrames G := fun u F G => by
    have h1 : (u.setFrames F).setVm vm' = (u.setVm vm').setFrames F := rfl
    rw [h1, State.setFrames_setFrames]
  rw [hr, List.tail_cons, State.pushFrame, hsf, State.setTop_of_frames _ hr, hsf]
  exact hrest
end TW3
section TW4
variable {p : Program} {l : Launch} {e : Env} {R : Room} {s : State} {m : MethodId} {args : Array Value} {below : List Frame} {meth : Method} {c : Code} {H : Heap} {locs : List Loc} {cells slots : Nat} {Q : State → Prop}
variable {cc : ByteArray} {pc : Nat} {ls : Array Slot} {st rest : List Value} {free : Addr → Prop} {Qc : Array Value → State → Outcome → State → Prop}
/-- the first handler takes it -/
theorem vx_catch1 {own name C : String} {x lo hi h ct : Nat} {tl : List (Nat × Nat × Nat × Nat)} (htab : tw_tab c ((lo, hi, h, ct) :: tl)) (hown : s.vm.findClass own = some m.cls) (hcov : (decide (lo ≤ pc) && decide (pc < hi)) = true) (h0 : ct ≠ 0)
    (hlink : (Cond.classLink own ct name).before args s = true) (hcast : (Cond.castable C name).before args s = true) {cell : Cell} (hcell : H[x]? = some cell) (hvn : cell.vm = .none) (hfC : s.vm.findClass C = some cell.cls)
    (k : W p l e R s m args below meth c H locs cells slots Q (F0 m h ls [.ref x])) : vx_W p l e R s m args below meth c H locs cells slots Q (F0 m pc ls st) x := by
  intro T hT X
  have hpl : e.platform.magicAccessors = ({} : Platform).magicAccessors := by rw [X.admits.platform]
  have hobj : cell.vm.isStatics = false := by rw [hvn]; rfl
  obtain ⟨k1, hk1, hcl⟩ := Cond.classLink_spec hown hlink e.platform hpl
  obtain ⟨k3, kT, hk3, hkT, hasg⟩ := Cond.castable_spec hcast
  rw [show k1 = kT from Option.some.inj (hk1.symm.trans hkT)] at hcl
  have hck : k3 = cell.cls := Option.some.inj (hk3.symm.trans hfC)
  subst hck
  obtain ⟨x0, xs0, hsplit, hx0, -⟩ := List.map_eq_cons_iff.mp htab
  obtain ⟨g1, g2, g3, g4⟩ : x0.startPc = lo ∧ x0.endPc = hi ∧ x0.handlerPc = h ∧ x0.catchType = ct := by
    simpa [Prod.ext_iff] using hx0
  subst g1; subst g2; subst g3; subst g4
  obtain ⟨dk, _, _, kt, hd, _, _, _, _, hkt, _, hopen⟩ := hcl.here
  have hcl₀ := X.warmed.classLinks hcl
  have hW' : s.WarmedH (T.vm.noted m.cls x0.catchType (.cls kT)) := X.warmed.noted hd hopen (State.rightAt_cls hcl)
  obtain ⟨kt', hkt', -⟩ := X.warmed.alike.2.2 _ _ hkt
  have hfit' : T.vm.assignable cell.cls kT = true := by rw [X.warmed.alike.assignable]; exact hasg
  have hcellT : T.heap[x]? = some cell := by rw [hT]; exact hcell
  obtain ⟨t2, a1, b1⟩ := k (T.setVm (T.vm.noted m.cls x0.catchType (.cls kT))) hT (X.noted hW')
  refine ⟨t2, tw_caught (g := F0 m pc ls st) (c := c) (meth := meth) X.here X.method' X.code (pc := x0.handlerPc) (vm' := T.vm.noted m.cls x0.catchType (.cls kT)) ?_ a1, b1⟩
  rw [hsplit]
  exact tw_find_yes (s := (T.setTop (F0 m pc ls st)).pushFrame (.throwing x)) (f := F0 m pc ls st) hcov h0 hcl₀ hcellT (VmData.ne_statics_of hobj) (Vm.classAt_of_assignable hfit' ⟨kt', hkt'⟩) ⟨kt', hkt'⟩ hfit'
end TW4
