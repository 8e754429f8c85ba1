section PWQ
variable {p : Program} {l : Launch} {e : Env} {R : Room} {s : State} {m : MethodId} {args : Array Value} {below : List Frame} {meth : Method} {c : Code} {H : Heap} {locs : List Loc} {cells slots : Nat} {Q : State → Prop}
variable {cc : ByteArray} {pc : Nat} {ls : Array Slot} {rest : List Value} {D : va_G} {cy : Nat → ClassId} {A : Nat → Prop} {h0 ci : Nat} {H0 : Heap} {L0 L : List Nat} {f0 f : Nat → va_E} {fs : List Value} {news : List (Nat × va_E)}
/-- an array of references to objects of C: its class is the one that the pool names -/
theorem pw_cnewq (hexec : p.tables.exec = Jvm.exec) (hb : c.code = cc) {own C : String} {index t0 : Nat} {cA : ClassId} (hown : s.vm.findClass own = some m.cls) (hclink : (Cond.classLink own index C).before args s = true) (hover : va_AO C s) (hG : pw_G D cy s) (ht : (pw_T cy)[t0]? = some (cA, .object C)) (hw : pw_W D A H0 L f H locs) (hN : pw_N h0 ci L0 f0 L f fs news)
    {n : Int32} {N' : Nat} (hn : ¬ n < 0) (hN' : n.toNatClampNeg = N') (hbytes : N' * 4 ≤ 536870912) (hcells : cells + 1 ≤ R.cells) (hslots : slots + N' ≤ R.slots) (hdg : decode cc pc = .ok (.anewarray index, 3))
    (kk : ∀ (q : Nat) (L1 : List Nat) (f1 : Nat → va_E) (H1 : Heap), pw_W D A H0 L1 f1 H1 locs → pw_N h0 ci L0 f0 L1 f1 fs (news ++ [(q, .inl (cA, N', .inr (.inr (.inr (.inr (fun _ => none))))))]) → W p l e R s m args below meth c H1 locs (cells + 1) (slots + N') Q (F0 m (pc + 3) ls (.ref q :: rest))) : W p l e R s m args below meth c H locs cells slots Q (F0 m pc ls (.int n :: rest)) := by
  refine va_newq hexec hb hown hclink hover hG.1 hw.1 hw.2.1 hw.2.2.1 hw.2.2.2 hn hN' hbytes hcells hslots hdg (fun q cA1 H1 hK1 hP hD hS => ?_)
  obtain ⟨kA, comp, -, -, -, f4⟩ := (hG.1.2 t0 _ ht).2
  obtain ⟨kB, comp2, -, -, -, g4⟩ := (hK1.2 (pw_T cy).length (cA1, .object C) (by rw [List.getElem?_append_right (Nat.le_refl _), Nat.sub_self]; rfl)).2
  have hcA : cA1 = cA := Option.some.inj (g4.symm.trans f4)
  subst hcA
  obtain ⟨h1, h2⟩ := pw_push hw hP hD hS
  exact kk q _ _ H1 h2 (hN.new h1)
end PWQ
