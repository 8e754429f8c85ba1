/-! Cells that came all at once, into the pool. -/
theorem pw_move {D : va_G} {A : Nat → Prop} {H0 H H1 : Heap} {L : List Nat} {f : Nat → va_E} {locs locs1 : List Loc} (hw : pw_W D A H0 L f H locs) (hsz : H.size ≤ H1.size) (hk : ∀ q : Nat, q < H.size → H1[q]? = H[q]?) (hl : ∀ x ∈ locs1, A x.base) : pw_W D A H0 L f H1 locs1 :=
  ⟨hw.1.kept (fun k q hq => hk q.1 ((hw.1 k q hq).lt)), hw.2.1, ⟨Nat.le_trans hw.2.2.1.1 hsz, fun q h1 h2 => (hk q (Nat.lt_of_lt_of_le h1 hw.2.2.1.1)).trans (hw.2.2.1.2.1 q h1 h2), hl⟩, hw.2.2.2⟩
theorem pw_grow1 {D : va_G} {A : Nat → Prop} {H0 H : Heap} {L : List Nat} {f : Nat → va_E} {locs : List Loc} {q : Nat} {e : va_E} (hw : pw_W D A H0 L f H locs) (hq : q ∉ L) (he : va_at D vwCl (q, e) H) (hA : A q) : pw_W D A H0 (L ++ [q]) (va_up f q e) H locs := by
  have h1 : va_P D vwCl (va_pl L f ++ [(q, e)]) H := hw.1.app (fun k x hx => by
    have hz : k < 1 := (List.getElem?_eq_some_iff.mp hx).1
    rw [show k = 0 by omega] at hx
    cases hx
    exact he)
  have h2 : va_D A (va_pl L f ++ [(q, e)]) := va_D.app hw.2.1 ⟨fun i j x y hx hy _ => by
      have h3 : i < 1 := (List.getElem?_eq_some_iff.mp hx).1
      have h4 : j < 1 := (List.getElem?_eq_some_iff.mp hy).1
      omega, fun k x hx => by
      have hz : k < 1 := (List.getElem?_eq_some_iff.mp hx).1
      rw [show k = 0 by omega] at hx
      cases hx
      exact hA⟩ (fun i j x y hx hy hxy => by
    have hz : j < 1 := (List.getElem?_eq_some_iff.mp hy).1
    rw [show j = 0 by omega] at hy
    cases hy
    have h3 : x ∈ va_pl L f := List.mem_of_getElem? hx
    obtain ⟨a, ha, hax⟩ := List.mem_map.mp h3
    rw [← hax] at hxy
    exact hq (by rw [← show a = q from hxy]; exact ha))
  rw [va_pl_push hq] at h1 h2
  exact ⟨h1, h2, hw.2.2.1, hw.2.2.2⟩
theorem pw_growN {D : va_G} {A : Nat → Prop} {H0 H : Heap} {locs : List Loc} {h0 ci : Nat} {L0 : List Nat} {f0 : Nat → va_E} {fs : List Value} : ∀ (ns : List (Nat × va_E)) {L : List Nat} {f : Nat → va_E} {news : List (Nat × va_E)}, pw_W D A H0 L f H locs → pw_N h0 ci L0 f0 L f fs news → (∀ x ∈ ns, x.1 ∉ L) → (ns.map Prod.fst).Nodup → (∀ x ∈ ns, va_at D vwCl x H ∧ A x.1) →
    ∃ (L1 : List Nat) (f1 : Nat → va_E), pw_W D A H0 L1 f1 H locs ∧ pw_N h0 ci L0 f0 L1 f1 fs (news ++ ns)
  | [], L, f, news, hw, hN, _, _, _ => ⟨L, f, hw, by rw [List.append_nil]; exact hN⟩
  | (q, e) :: ns, L, f, news, hw, hN, hq, hd, ha => by
    have hq0 : q ∉ L := hq (q, e) List.mem_cons_self
    have hd2 := List.nodup_cons.mp hd
    obtain ⟨L1, f1, h1, h2⟩ := pw_growN ns (pw_grow1 hw hq0 (ha (q, e) List.mem_cons_self).1 (ha (q, e) List.mem_cons_self).2) (hN.new hq0) (fun x hx h3 => by
      rcases List.mem_append.mp h3 with h4 | h4
      · exact hq x (List.mem_cons_of_mem _ hx) h4
      · exact hd2.1 (by rw [← List.mem_singleton.mp h4]; exact List.mem_map.mpr ⟨x, hx, rfl⟩)) hd2.2 (fun x hx => ha x (List.mem_cons_of_mem _ hx))
    exact ⟨L1, f1, h1, by rw [List.append_cons]; exact h2⟩
section PWA
variable {p : Program} {l : Launch} {e : Env} {R : Room} {s : State} {m : MethodId} {args : Array Value} {below : List Frame} {meth : Method} {c : Code} {H : Heap} {locs : List Loc} {cells slots : Nat} {Q : State → Prop}
variable {cc : ByteArray} {pc : Nat} {ls : Array Slot} {rest : List Value} {D : va_G} {cy : Nat → ClassId} {A : Nat → Prop} {h0 ci : Nat} {H0 : Heap} {L0 L : List Nat} {f0 f : Nat → va_E} {fs : List Value} {news : List (Nat × va_E)}
/-- new T[n][]: an array of arrays, empty -/
theorem pw_cnewA (hexec : p.tables.exec = Jvm.exec) (hb : c.code = cc) {own nm : String} {index t0 : Nat} {t : FieldType} {cA : ClassId} (hown : s.vm.findClass own = some m.cls) (hnm : (FieldType.array t).toString = nm) (hclink : (Cond.classLink own index nm).before args s = true) (hover : pw_AA t s) (hG : pw_G D cy s) (ht : (pw_T cy)[t0]? = some (cA, .array t)) (hw : pw_W D A H0 L f H locs) (hN : pw_N h0 ci L0 f0 L f fs news)
    {n : Int32} {N' : Nat} (hn : ¬ n < 0) (hN' : n.toNatClampNeg = N') (hbytes : N' * 4 ≤ 536870912) (hcells : cells + 1 ≤ R.cells) (hslots : slots + N' ≤ R.slots) (hdg : decode cc pc = .ok (.anewarray index, 3))
    (kk : ∀ (q : Nat) (L1 : List Nat) (f1 : Nat → va_E) (H1 : Heap), pw_W D A H0 L1 f1 H1 locs → pw_N h0 ci L0 f0 L1 f1 fs (news ++ [(q, .inl (cA, N', .inr (.inr (.inr (.inr (fun _ => none))))))]) → W p l e R s m args below meth c H1 locs (cells + 1) (slots + N') Q (F0 m (pc + 3) ls (.ref q :: rest))) : W p l e R s m args below meth c H locs cells slots Q (F0 m pc ls (.int n :: rest)) := by
  subst hN'
  subst hnm
  refine W.anewA hexec hb hown hclink hover rfl hdg rfl hn hbytes hcells hslots fun cA1 kA comp f1 f2 f3 f4 => ?_
  have hcA : cA1 = cA := Option.some.inj (f1.symm.trans (hG.1.2 t0 _ ht).2)
  subst hcA
  generalize hH1 : H.push ({ cls := cA1, slots := Array.replicate n.toNatClampNeg .null, vm := .none } : Cell) = H1
  have z1 : H1.size = H.size + 1 := by rw [← hH1, Array.size_push]
  have e1 : H1[H.size]? = some (arrV cA1 n.toNatClampNeg (fun _ => .null)) := by rw [← hH1, Array.getElem?_push_size, ← arrV_new]
  have o1 : ∀ q : Nat, q < H.size → H1[q]? = H[q]? := fun q hq => by rw [← hH1, Array.getElem?_push, if_neg (Nat.ne_of_lt hq)]
  have hq : H.size ∉ L := fun h => Nat.lt_irrefl _ (pw_lt hw h)
  have hw1 := pw_grow1 (e := .inl (cA1, n.toNatClampNeg, .inr (.inr (.inr (.inr (fun _ => none)))))) (pw_move hw (by omega) o1 hw.2.2.1.2.2) hq (by show H1[H.size]? = some (vp_cell _ _); rw [vp_cell_q]; exact e1) (hw.2.2.2 _ hw.2.2.1.1)
  exact kk H.size _ _ H1 hw1 (hN.new hq)
/-- new T[n][k] -/
theorem pw_cmna (hexec : p.tables.exec = Jvm.exec) (hb : c.code = cc) {own nm : String} {index t0 t1 : Nat} {ty : FieldType} {cA cB : ClassId} (hown : s.vm.findClass own = some m.cls) (hnm : "[" ++ (FieldType.array ty).toString = nm) (hclink : (Cond.classLink own index nm).before args s = true) (hover : pw_AA ty s) (harr : (Cond.arrayClass ty).before args s = true) (hG : pw_G D cy s) (ht : (pw_T cy)[t0]? = some (cA, .array ty)) (ht1 : (pw_T cy)[t1]? = some (cB, ty)) (hra : ∀ U : State, va_RA U cB ty → U.vm.findClass (FieldType.array ty).toString = some cB) (hw : pw_W D A s.heap L f H locs) (hN : pw_N h0 ci L0 f0 L f fs news)
    {n k : Int32} {N' K' : Nat} {a0 : vp_A} (ha : ∀ cX : ClassId, vp_cell cX a0 = arrV cX K' (fun _ => defaultValue ty)) (hn : ¬ n < 0) (hk : ¬ k < 0) (hN' : n.toNatClampNeg = N') (hK' : k.toNatClampNeg = K') (hb1 : N' * 4 ≤ 536870912) (hb2 : K' * componentBytes ty ≤ 536870912) (hb3 : K' ≤ 536870912) (hdf : fits ty (defaultValue ty) = true) (hcells : cells + (1 + N') ≤ R.cells) (hslots : slots + (N' + N' * K') ≤ R.slots) (hdg : decode cc pc = .ok (.multianewarray index 2, 4))
    (kk : ∀ (q : Nat) (L1 : List Nat) (f1 : Nat → va_E) (H1 : Heap) (locs1 : List Loc), pw_W D A s.heap L1 f1 H1 locs1 → pw_N h0 ci L0 f0 L1 f1 fs (news ++ (q, .inl (cA, N', .inr (.inr (.inr (.inr (fun j => if j < N' then some (q + 1 + j) else none)))))) :: (List.range N').map (fun j => (q + 1 + j, .inl (cB, a0)))) → W p l e R s m args below meth c H1 locs1 (cells + 1 + N') (slots + N' + N' * K') Q (F0 m (pc + 4) ls (.ref q :: rest))) : W p l e R s m args below meth c H locs cells slots Q (F0 m pc ls (.int k :: .int n :: rest)) := by
  subst hN'
  subst hK'
  subst hnm
  intro T hT X
  obtain ⟨vm₁, cA1, cB1, fA, fB, X', step⟩ := mw_step X hexec hown hclink hover harr (g := F0 m pc ls (.int k :: .int n :: rest)) rfl (by rw [hb]; exact hdg) rfl hn hk hb1 hb2 hb3 hdf hcells hslots
  have hcA : cA1 = cA := Option.some.inj (fA.symm.trans (hG.1.2 t0 _ ht).2)
  have hcB : cB1 = cB := Option.some.inj (fB.symm.trans (hra s (hG.1.2 t1 _ ht1).2))
  subst hcA
  subst hcB
  have hTs : (T.setVm vm₁).heap.size = H.size := by show T.heap.size = _; rw [hT]
  have f1 := mw_size (T.setVm vm₁) cA1 cB1 n.toNatClampNeg k.toNatClampNeg (defaultValue ty) n.toNatClampNeg
  have f2 := mw_top (T.setVm vm₁) cA1 cB1 n.toNatClampNeg k.toNatClampNeg (defaultValue ty) n.toNatClampNeg
  have f3 : ∀ a : Nat, a < H.size → (mw_st (T.setVm vm₁) cA1 cB1 n.toNatClampNeg k.toNatClampNeg (defaultValue ty) n.toNatClampNeg).heap[a]? = H[a]? := fun a h => by
    rw [mw_old (T.setVm vm₁) cA1 cB1 _ _ _ (by rw [hTs]; exact h)]
    show T.heap[a]? = _
    rw [hT]
  have f4 := mw_row (T.setVm vm₁) cA1 cB1 n.toNatClampNeg k.toNatClampNeg (defaultValue ty) n.toNatClampNeg
  rw [hTs] at f1 f2 f4
  have hTh : T.heap.size = H.size := by rw [hT]
  rw [hTh] at X' step
  generalize mw_st (T.setVm vm₁) cA1 cB1 n.toNatClampNeg k.toNatClampNeg (defaultValue ty) n.toNatClampNeg = T1 at f1 f2 f3 f4 X' step
  have hAH : ∀ q : Nat, H.size ≤ q → A q := fun q h => hw.2.2.2 q (Nat.le_trans hw.2.2.1.1 h)
  have hw1 : pw_W D A s.heap L f T1.heap (locs ++ (List.range n.toNatClampNeg).map fun j => (⟨H.size, j⟩ : Loc)) := pw_move hw (by omega) f3 (fun x hx => by
    rcases List.mem_append.mp hx with h | h
    · exact hw.2.2.1.2.2 x h
    · obtain ⟨j, -, rfl⟩ := List.mem_map.mp h
      exact hAH _ (Nat.le_refl _))
  obtain ⟨L1, f5, h1, h2⟩ := pw_growN ((H.size, .inl (cA1, n.toNatClampNeg, .inr (.inr (.inr (.inr (fun j => if j < n.toNatClampNeg then some (H.size + 1 + j) else none)))))) :: (List.range n.toNatClampNeg).map (fun j => (H.size + 1 + j, .inl (cB1, a0)))) hw1 hN
    (fun x hx h => by
      have h3 := pw_lt hw h
      rcases List.mem_cons.mp hx with rfl | hx
      · exact Nat.lt_irrefl _ h3
      · obtain ⟨j, -, rfl⟩ := List.mem_map.mp hx
        dsimp only at h3
        omega)
    (by
      rw [List.map_cons, List.map_map, List.nodup_cons]
      refine ⟨fun h => ?_, ?_⟩
      · obtain ⟨j, -, hj⟩ := List.mem_map.mp h
        have hj : H.size + 1 + j = H.size := hj
        omega
      · refine List.Pairwise.map _ (fun a b hab => ?_) (List.nodup_range (n := n.toNatClampNeg))
        show H.size + 1 + a ≠ H.size + 1 + b
        omega)
    (fun x hx => by
      rcases List.mem_cons.mp hx with rfl | hx
      · refine ⟨?_, hAH _ (Nat.le_refl _)⟩
        show T1.heap[H.size]? = some (vp_cell _ _)
        rw [f2, vp_cell_q]
        refine congrArg some ?_
        unfold mw_out
        refine congrArg (arrV cA1 _) (funext fun j => ?_)
        by_cases hj : j < n.toNatClampNeg
        · simp [hj, va_rf]
        · simp [hj, va_rf]
      · obtain ⟨j, hj, rfl⟩ := List.mem_map.mp hx
        refine ⟨?_, hAH _ (by show H.size ≤ H.size + 1 + j; omega)⟩
        show T1.heap[H.size + 1 + j]? = some (vp_cell _ _)
        rw [f4 j (List.mem_range.mp hj), ha]
        unfold mw_in
        rw [arrV_new])
  obtain ⟨t, a1, b1⟩ := kk H.size L1 f5 T1.heap _ h1 h2 T1 rfl X'
  exact ⟨t, step t a1, b1⟩
end PWA
