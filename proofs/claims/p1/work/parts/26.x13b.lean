/-! THE REFERENCE'S CONSTRUCTOR: the object's fields as far as they are wanted, the rows among the new ones that are wanted. -/
def pn_N (h0 : Nat) (L0 : List Nat) (f0 : Nat → va_E) (L : List Nat) (f : Nat → va_E) (fs : List Value) (cs : List (Nat × va_E)) : Prop :=
  (∃ M, L = L0 ++ M ∧ ∀ x ∈ cs, x.1 ∈ M) ∧ (cs.map Prod.fst).Nodup ∧ f h0 = .inr (13, fs) ∧ (∀ x ∈ cs, f x.1 = x.2) ∧ (∀ x ∈ L0, x ≠ h0 → f x = f0 x) ∧ h0 ∈ L0
theorem pn_N.mem {h0 : Nat} {L0 L : List Nat} {f0 f : Nat → va_E} {fs : List Value} {cs : List (Nat × va_E)} (h : pn_N h0 L0 f0 L f fs cs) : h0 ∈ L := by
  obtain ⟨⟨M, hL, -⟩, -, -, -, -, h0m⟩ := h
  rw [hL]; exact List.mem_append_left _ h0m
theorem pn_N.new {h0 q : Nat} {e : va_E} {L0 L : List Nat} {f0 f : Nat → va_E} {fs : List Value} {cs : List (Nat × va_E)} (h : pn_N h0 L0 f0 L f fs cs) (hq : q ∉ L) : pn_N h0 L0 f0 (L ++ [q]) (va_up f q e) fs cs := by
  have hm := h.mem
  obtain ⟨⟨M, hL, hM⟩, hnd, hf, hc, hF, h0m⟩ := h
  have hne : ∀ x ∈ L, x ≠ q := fun x hx e => hq (e ▸ hx)
  refine ⟨⟨M ++ [q], by rw [hL, List.append_assoc], fun x hx => List.mem_append_left _ (hM x hx)⟩, hnd, ?_, fun x hx => ?_, fun x hx hx0 => ?_, h0m⟩
  · rw [va_up_ne _ _ (hne _ hm)]; exact hf
  · rw [va_up_ne _ _ (hne _ (by rw [hL]; exact List.mem_append_right _ (hM x hx)))]; exact hc x hx
  · rw [va_up_ne _ _ (hne _ (by rw [hL]; exact List.mem_append_left _ hx))]; exact hF x hx hx0
theorem pn_N.newT {h0 q : Nat} {e : va_E} {L0 L : List Nat} {f0 f : Nat → va_E} {fs : List Value} {cs : List (Nat × va_E)} (h : pn_N h0 L0 f0 L f fs cs) (hq : q ∉ L) : pn_N h0 L0 f0 (L ++ [q]) (va_up f q e) fs (cs ++ [(q, e)]) := by
  have h9 := h.new (e := e) hq
  obtain ⟨⟨M, hL, hM⟩, hnd, -, -, -, -⟩ := h
  obtain ⟨-, -, hf, hc, hF, h0m⟩ := h9
  refine ⟨⟨M ++ [q], by rw [hL, List.append_assoc], fun x hx => ?_⟩, ?_, hf, fun x hx => ?_, hF, h0m⟩
  · rcases List.mem_append.mp hx with h | h
    · exact List.mem_append_left _ (hM x h)
    · rw [List.mem_singleton.mp h]; exact List.mem_append_right _ (List.mem_singleton.mpr rfl)
  · rw [List.map_append]
    refine List.nodup_append.mpr ⟨hnd, List.nodup_cons.mpr ⟨List.not_mem_nil, List.nodup_nil⟩, fun a h1 b h2 => ?_⟩
    obtain ⟨y, hy, rfl⟩ := List.mem_map.mp h1
    have h3 : b = q := List.mem_singleton.mp h2
    intro e9
    exact hq (by rw [hL, ← h3, ← e9]; exact List.mem_append_right _ (hM y hy))
  · rcases List.mem_append.mp hx with h | h
    · exact hc x h
    · rw [List.mem_singleton.mp h]; exact va_up_self _ _ _
theorem pn_N.apart {h0 : Nat} {L0 L : List Nat} {f0 f : Nat → va_E} {fs : List Value} {cs : List (Nat × va_E)} (h : pn_N h0 L0 f0 L f fs cs) (hd : L.Nodup) {x : Nat × va_E} (hx : x ∈ cs) : x.1 ∉ L0 ∧ x.1 ∈ L := by
  obtain ⟨⟨M, hL, hM⟩, -⟩ := h
  rw [hL] at hd ⊢
  exact ⟨fun h2 => (List.nodup_append.mp hd).2.2 x.1 h2 x.1 (hM x hx) rfl, List.mem_append_right _ (hM x hx)⟩
theorem pn_N.put {h0 : Nat} {L0 L : List Nat} {f0 f : Nat → va_E} {fs gs : List Value} {cs : List (Nat × va_E)} (h : pn_N h0 L0 f0 L f fs cs) (hd : L.Nodup) : pn_N h0 L0 f0 L (va_up f h0 (.inr (13, gs))) gs cs := by
  have h1 := fun (x : Nat × va_E) (hx : x ∈ cs) => (h.apart hd hx).1
  obtain ⟨hM, hnd, hf, hc, hF, h0m⟩ := h
  refine ⟨hM, hnd, va_up_self _ _ _, fun x hx => ?_, fun x hx hne => ?_, h0m⟩
  · rw [va_up_ne _ _ (fun q => h1 x hx (by rw [q]; exact h0m))]; exact hc x hx
  · rw [va_up_ne _ _ hne]; exact hF x hx hne
theorem pn_N.store {h0 j q : Nat} {e0 e1 : va_E} {L0 L : List Nat} {f0 f : Nat → va_E} {fs : List Value} {cs : List (Nat × va_E)} (h : pn_N h0 L0 f0 L f fs cs) (hd : L.Nodup) (hj : cs[j]? = some (q, e0)) : pn_N h0 L0 f0 L (va_up f q e1) fs (cs.set j (q, e1)) := by
  have h1 := (h.apart hd (List.mem_of_getElem? hj)).1
  have hm := h.mem
  obtain ⟨⟨M, hL, hM⟩, hnd, hf, hc, hF, h0m⟩ := h
  have hC : pq_C L f cs := ⟨hnd, fun x hx => ⟨by rw [hL]; exact List.mem_append_right _ (hM x hx), hc x hx⟩⟩
  have hC1 := hC.set (e1 := e1) hj
  refine ⟨⟨M, hL, fun x hx => ?_⟩, hC1.1, ?_, fun x hx => (hC1.2 x hx).2, fun x hx hne => ?_, h0m⟩
  · rcases List.mem_or_eq_of_mem_set hx with h | h
    · exact hM x h
    · rw [h]; exact hM (q, e0) (List.mem_of_getElem? hj)
  · rw [va_up_ne _ _ (fun e => h1 (by rw [← e]; exact h0m))]; exact hf
  · rw [va_up_ne _ _ (fun e => h1 (by rw [← e]; exact hx))]; exact hF x hx hne
/-- the world at a point of the constructor -/
def pn_W (D : va_G) (A : Nat → Prop) (H0 : Heap) (h0 : Nat) (L0 : List Nat) (f0 : Nat → va_E) (fs : List Value) (cs : List (Nat × va_E)) (H : Heap) (locs : List Loc) : Prop :=
  ∃ L f, pw_W D A H0 L f H locs ∧ pn_N h0 L0 f0 L f fs cs
section PN
variable {p : Program} {l : Launch} {e : Env} {R : Room} {s : State} {m : MethodId} {args : Array Value} {below : List Frame} {meth : Method} {c : Code} {H : Heap} {locs : List Loc} {cells slots : Nat} {Q : State → Prop}
variable {cc : ByteArray} {pc : Nat} {ls : Array Slot} {rest : List Value} {D : va_G} {cy : Nat → ClassId} {A : Nat → Prop} {h0 sz : Nat} {H0 : Heap} {L0 : List Nat} {f0 : Nat → va_E} {fs : List Value} {cs : List (Nat × va_E)} {Ts : List Cond}
theorem pn_putF (hexec : p.tables.exec = Jvm.exec) (hb : c.code = cc) (hts : ∀ w ∈ Ts, w.before args s = true) {index : Nat} (hin : ∀ w ∈ u_ws RX13 TX13 229, w ∈ Ts) (hown : s.vm.findClass RX13 = some m.cls) (hG : pw_G D cy s) (hW : pn_W D A H0 h0 L0 f0 fs cs H locs) {kv kv' : List (Nat × Value)} (hE : pq_E 229 fs kv) (k : Nat) {v : Value} (hk : k < 229) (hfin : (TX13 k).2.2.2 = true) (hin2 : meth.name = "<init>") (hdecl : (TX13 k).1 = RX13) (hn : narrow (tyX13 k) v = v) (hfit : fits (tyX13 k) v = true) (hkv : pq_kv kv k v = kv') (hlink : Cond.fieldLink RX13 index (TX13 k).1 (TX13 k).2.1 (TX13 k).2.2.1 ∈ Ts) (hdg : decode cc pc = .ok (.putfield index, 3))
    (kk : ∀ (fs1 : List Value) (H1 : Heap) (locs1 : List Loc), pn_W D A H0 h0 L0 f0 fs1 cs H1 locs1 → pq_E 229 fs1 kv' → W p l e R s m args below meth c H1 locs1 cells slots Q (F0 m (pc + 3) ls rest)) : W p l e R s m args below meth c H locs cells slots Q (F0 m pc ls (v :: .ref h0 :: rest)) := by
  obtain ⟨L, f, hw, hN⟩ := hW
  subst hkv
  exact pw_putF (C := RX13) (T := TX13) (N := 229) (ci := 13) hexec hb hts hin tyX13 tyX13_ok nmX13 hown hG hw hN.mem hN.2.2.1 rfl k hk (hts _ hlink) (fun _ h => h) hfin hin2 hdecl (tyX13_ok k hk) hn hfit (by rw [hE.1]; exact hk) hdg (fun H1 locs1 hw1 => kk _ H1 locs1 ⟨_, _, hw1, hN.put (pw_nd hw1)⟩ (hE.set hk))
theorem pn_put (hexec : p.tables.exec = Jvm.exec) (hb : c.code = cc) (hts : ∀ w ∈ Ts, w.before args s = true) {index : Nat} (hin : ∀ w ∈ u_ws RX13 TX13 229, w ∈ Ts) (hown : s.vm.findClass RX13 = some m.cls) (hG : pw_G D cy s) (hW : pn_W D A H0 h0 L0 f0 fs cs H locs) {kv kv' : List (Nat × Value)} (hE : pq_E 229 fs kv) (k : Nat) {v : Value} (hk : k < 229) (hfin : (TX13 k).2.2.2 = false) (hn : narrow (tyX13 k) v = v) (hfit : fits (tyX13 k) v = true) (hkv : pq_kv kv k v = kv') (hlink : Cond.fieldLink RX13 index (TX13 k).1 (TX13 k).2.1 (TX13 k).2.2.1 ∈ Ts) (hdg : decode cc pc = .ok (.putfield index, 3))
    (kk : ∀ (fs1 : List Value) (H1 : Heap) (locs1 : List Loc), pn_W D A H0 h0 L0 f0 fs1 cs H1 locs1 → pq_E 229 fs1 kv' → W p l e R s m args below meth c H1 locs1 cells slots Q (F0 m (pc + 3) ls rest)) : W p l e R s m args below meth c H locs cells slots Q (F0 m pc ls (v :: .ref h0 :: rest)) := by
  obtain ⟨L, f, hw, hN⟩ := hW
  subst hkv
  exact pw_put (C := RX13) (T := TX13) (N := 229) (ci := 13) hexec hb hts hin tyX13 tyX13_ok nmX13 hown hG hw hN.mem hN.2.2.1 rfl k hk (hts _ hlink) (fun _ h => h) hfin (tyX13_ok k hk) hn hfit (by rw [hE.1]; exact hk) hdg (fun H1 locs1 hw1 => kk _ H1 locs1 ⟨_, _, hw1, hN.put (pw_nd hw1)⟩ (hE.set hk))
theorem pn_get (hexec : p.tables.exec = Jvm.exec) (hb : c.code = cc) (hts : ∀ w ∈ Ts, w.before args s = true) {index : Nat} (hin : ∀ w ∈ u_ws RX13 TX13 229, w ∈ Ts) (hown : s.vm.findClass RX13 = some m.cls) (hG : pw_G D cy s) (hW : pn_W D A H0 h0 L0 f0 fs cs H locs) {kv : List (Nat × Value)} (hE : pq_E 229 fs kv) (i : Nat) {k : Nat} {v : Value} (hi : kv[i]? = some (k, v)) (hk : k < 229) (hlink : Cond.fieldLink RX13 index (TX13 k).1 (TX13 k).2.1 (TX13 k).2.2.1 ∈ Ts) (hdg : decode cc pc = .ok (.getfield index, 3))
    (kk : W p l e R s m args below meth c H locs cells slots Q (F0 m (pc + 3) ls (v :: rest))) : W p l e R s m args below meth c H locs cells slots Q (F0 m pc ls (.ref h0 :: rest)) := by
  obtain ⟨L, f, hw, hN⟩ := hW
  exact pw_get (C := RX13) (T := TX13) (N := 229) (ci := 13) hexec hb hts hin hown hG hw hN.mem hN.2.2.1 rfl k hk (hts _ hlink) (fun _ h => h) (hE.at hi) hdg kk
theorem pn_newa (hexec : p.tables.exec = Jvm.exec) (hb : c.code = cc) {atype : ArrayType} {ty : FieldType} {t0 : Nat} {cA : ClassId} (harr : (Cond.arrayClass (newarray.typeOf atype)).before args s = true) (hty : newarray.typeOf atype = ty) (hG : pw_G D cy s) (ht : (pw_T cy)[t0]? = some (cA, ty)) (hra : ∀ U : State, va_RA U cA ty → U.vm.findClass ("[" ++ ty.toString) = some cA) (hW : pn_W D A H0 h0 L0 f0 fs cs H locs)
    {n : Int32} {N' : Nat} {a0 : vp_A} (ha : ∀ cA : ClassId, vp_cell cA a0 = arrV cA N' (fun _ => defaultValue ty)) (hn : ¬ n < 0) (hN' : n.toNatClampNeg = N') (hbytes : N' * componentBytes ty ≤ 536870912) (hcells : cells + 1 ≤ R.cells) (hslots : slots + N' ≤ R.slots) (hdg : decode cc pc = .ok (.newarray atype, 2))
    (kk : ∀ (q : Nat) (H1 : Heap), pn_W D A H0 h0 L0 f0 fs cs H1 locs → W p l e R s m args below meth c H1 locs (cells + 1) (slots + N') Q (F0 m (pc + 2) ls (.ref q :: rest))) : W p l e R s m args below meth c H locs cells slots Q (F0 m pc ls (.int n :: rest)) := by
  obtain ⟨L, f, hw, hN⟩ := hW
  exact pw_newa hexec hb harr hty hG ht hra hw ha hn hN' hbytes hcells hslots hdg (fun q H1 hq hw1 => kk q H1 ⟨_, _, hw1, hN.new hq⟩)
theorem pn_newaT (hexec : p.tables.exec = Jvm.exec) (hb : c.code = cc) {atype : ArrayType} {ty : FieldType} {t0 : Nat} {cA : ClassId} (harr : (Cond.arrayClass (newarray.typeOf atype)).before args s = true) (hty : newarray.typeOf atype = ty) (hG : pw_G D cy s) (ht : (pw_T cy)[t0]? = some (cA, ty)) (hra : ∀ U : State, va_RA U cA ty → U.vm.findClass ("[" ++ ty.toString) = some cA) (hW : pn_W D A H0 h0 L0 f0 fs cs H locs)
    {n : Int32} {N' : Nat} {a0 : vp_A} (ha : ∀ cA : ClassId, vp_cell cA a0 = arrV cA N' (fun _ => defaultValue ty)) (hn : ¬ n < 0) (hN' : n.toNatClampNeg = N') (hbytes : N' * componentBytes ty ≤ 536870912) (hcells : cells + 1 ≤ R.cells) (hslots : slots + N' ≤ R.slots) (hdg : decode cc pc = .ok (.newarray atype, 2))
    (kk : ∀ (q : Nat) (H1 : Heap), pn_W D A H0 h0 L0 f0 fs (cs ++ [(q, .inl (cA, a0))]) H1 locs → W p l e R s m args below meth c H1 locs (cells + 1) (slots + N') Q (F0 m (pc + 2) ls (.ref q :: rest))) : W p l e R s m args below meth c H locs cells slots Q (F0 m pc ls (.int n :: rest)) := by
  obtain ⟨L, f, hw, hN⟩ := hW
  exact pw_newa hexec hb harr hty hG ht hra hw ha hn hN' hbytes hcells hslots hdg (fun q H1 hq hw1 => kk q H1 ⟨_, _, hw1, hN.newT hq⟩)
theorem pn_iast (hexec : p.tables.exec = Jvm.exec) (hb : c.code = cc) (hG : pw_G D cy s) (hW : pn_W D A s.heap h0 L0 f0 fs cs H locs) (j : Nat) {a n : Nat} {g : Nat → Int32} (hj : cs[j]? = some (a, .inl (cy 1, n, .inl g))) {i x : Int32} (hin : vp_in i n) (hdg : decode cc pc = .ok (.iastore, 1))
    (kk : ∀ (H1 : Heap) (locs1 : List Loc), pn_W D A s.heap h0 L0 f0 fs (cs.set j (a, .inl (cy 1, n, .inl (upd g i.toNatClampNeg x)))) H1 locs1 → W p l e R s m args below meth c H1 locs1 cells slots Q (F0 m (pc + 1) ls rest)) : W p l e R s m args below meth c H locs cells slots Q (F0 m pc ls (.int x :: .int i :: .ref a :: rest)) := by
  obtain ⟨L, f, hw, hN⟩ := hW
  have h1 := (hN.apart (pw_nd hw) (List.mem_of_getElem? hj)).2
  have h2 : f a = .inl (cy 1, n, .inl g) := hN.2.2.2.1 _ (List.mem_of_getElem? hj)
  obtain ⟨k0, hk0⟩ := va_pl_get (X := []) (f := f) h1
  have hk1 := hk0
  rw [h2] at hk0
  exact va_iast hexec hb hG.1 hw.1 hw.2.1 hw.2.2.1 k0 1 hk0 rfl hin hdg (fun H1 locs1 hP hD hS => kk H1 locs1 (by
    have hw1 := pw_set hw h1 hk1 hP hD hS
    exact ⟨_, _, hw1, hN.store (pw_nd hw1) hj⟩))
/-- the strings that the constructor names -/
def ps_strs : List (Nat × String × Nat) := [(197, "tongue", 6), (207, "kind", 4), (212, "fun", 3), (217, "feature", 7), (222, "letters", 7), (227, "sound", 5), (232, "pattern", 7), (237, "word", 4), (241, "lin", 3), (246, "mean", 4), (251, "thing", 5), (256, "fact", 4), (261, "cost", 4), (266, "has", 3), (271, "of", 2), (276, "agree", 5), (281, "give", 4), (541, "and", 3), (546, "or", 2), (551, "if", 2), (556, "not", 3), (561, "all", 3), (566, "some", 4), (571, "is", 2)]
def ps_X (qa va : Nat → Nat) (A : Nat → Prop) (U : State) (H : Heap) : Prop := ∀ x ∈ ps_strs, vk_R RX13 x.1 x.2.1 (qa x.1) U ∧ ∃ b, py_S (qa x.1) (va x.1) x.2.2 b A U H
theorem ps_X.to {qa va : Nat → Nat} {A A' : Nat → Prop} {s U : State} {H H1 : Heap} (hW : s.WarmedH U.vm) (hk : ∀ q : Nat, q < H.size → ¬ A q → H1[q]? = H[q]?) (hA : ∀ q, A' q → A q) (h : ps_X qa va A s H) : ps_X qa va A' U H1 := fun x hx => by
  obtain ⟨h1, b, h2⟩ := h x hx
  exact ⟨h1.warm hW, b, h2.to hW.alike hk hA⟩
def ps_Pc (D : va_G) (cy : Nat → ClassId) (qa va : Nat → Nat) (av : List Value) (sz : Nat) (L : List Nat) (f : Nat → va_E) : Array Value → State → Prop :=
  va_Pc av (fun U => U.heap.size = sz ∧ pw_G D cy U ∧ ps_X qa va (pw_A L f sz) U U.heap ∧ va_P D vwCl (va_pl L f) U.heap ∧ va_D (fun _ => True) (va_pl L f))
theorem ps_blind {D : va_G} {cy : Nat → ClassId} {qa va : Nat → Nat} {av : List Value} {sz : Nat} {L : List Nat} {f : Nat → va_E} : FrameBlind (ps_Pc D cy qa va av sz L f) := by
  intro a U g mk h
  obtain ⟨q0, q1, qG, qX, qP, qD⟩ := h
  refine ⟨q0, q1, pw_G.same (s := U) (U := U.calling g mk a) rfl qG, fun x hx => ?_, qP, qD⟩
  obtain ⟨h1, b, h2⟩ := qX x hx
  exact ⟨h1.same rfl, b, h2.to (s := U) (U := U.calling g mk a) (Vm.Alike.refl U.vm) (fun _ _ _ => rfl) (fun _ h => h)⟩
section PN2
variable {L : List Nat} {f : Nat → va_E}
theorem pw_calll {pc mc ms : Nat} {st0 : List Value} {a : Array Value} {A : Nat → Prop} {Q : State → Prop} {S : Int64 → List Nat × (Nat → va_E) → Prop} (hw : pw_W D A s.heap L f H locs)
    (hr : va_Run p l e R s m args below meth c H locs cells slots mc ms (F0 m pc ls st0) rest (va_Ql S (pw_B D (pw_A L f H.size)) (pw_A L f H.size) a) (pw_A L f H.size))
    (kk : ∀ (r : Int64) (L1 : List Nat) (f1 : Nat → va_E) (H1 : Heap) (locs1 : List Loc), pw_W D A s.heap L1 f1 H1 locs1 → S r (L1, f1) → W p l e R s m args below meth c H1 locs1 (cells + mc) (slots + ms) Q (F0 m (pc + 3) ls (.long r :: rest))) : W p l e R s m args below meth c H locs cells slots Q (F0 m pc ls st0) := by
  refine va_calll hr hw.2.2.1 (fun q _ h => pq_sub hw q h) (pq_sub hw) (fun r u t H1 locs1 ht _ hp hB _ _ hS => ?_)
  obtain ⟨L1, f1⟩ := u
  obtain ⟨hP1, hD1⟩ := hB
  rw [ht] at hP1
  exact kk r L1 f1 H1 locs1 ⟨hP1, hD1.weaken (fun k q _ h => pq_sub hw q.1 h), hS, hw.2.2.2⟩ hp
end PN2
/-- word() of a constant -/
theorem pn_word (hexec : p.tables.exec = Jvm.exec) (hb : c.code = cc) (hml : c.maxLocals = 2) {own : String} {c0 : Cond} (hown : s.vm.findClass RX13 = some m.cls) (hts : ∀ w ∈ (c0 :: pp_ws), w.before args s = true) (hG : pw_G D cy s) {qa va : Nat → Nat} (hZ : ps_X qa va A s s.heap) {x : Nat × String × Nat} (hx : x ∈ ps_strs) (hW : pn_W D A s.heap h0 L0 f0 fs cs H locs) (hls : ls.size = 2) (hrest : (rest.map fun v => v.category).sum ≤ 8) (hRf : 5 ≤ R.frames) (hRl : 109 ≤ R.locals) (hRc : cells ≤ R.cells) (hRs : slots ≤ R.slots) (hdg : decode cc pc = .ok (.invokestatic 199, 3))
    (kk : ∀ (r : Int64) (H1 : Heap) (locs1 : List Loc), pn_W D A s.heap h0 L0 f0 fs cs H1 locs1 → W p l e R s m args below meth c H1 locs1 cells slots Q (F0 m (pc + 3) ls (.long r :: rest))) : W p l e R s m args below meth c H locs cells slots Q (F0 m pc ls (.ref (qa x.1) :: rest)) := by
  obtain ⟨L, f, hw, hN⟩ := hW
  obtain ⟨-, b, hY⟩ := hZ x hx
  have hn : x.2.2 < 2 ^ 31 := by
    have : ∀ y ∈ ps_strs, y.2.2 < 2 ^ 31 := by decide
    exact this x hx
  refine pw_calll hw (va_runS (As := [.ref (qa x.1)]) (rest := rest) ⟨hexec, hb, hml, hown, hts⟩ (c_X13_word l D cy (qa x.1) (va x.1) x.2.2 b hn H.size L f) (va_cwS 1 hts (pp_gS pp342 pp343 pp344 pp20) rfl rfl rfl pd_X13_word ⟨hRf, hRl⟩) (py_pre hG hY hw) rfl rfl hls rfl (by show 2 * 0 + _ ≤ 8; omega) hdg ⟨hRc, hRs⟩) (fun r L1 f1 H1 locs1 hw1 hS => ?_)
  obtain ⟨hL, -, hF⟩ := hS
  dsimp only at hL hF
  have hf : f1 = f := funext fun y => hF y List.not_mem_nil
  subst hL hf
  exact kk r H1 locs1 ⟨L1, f1, hw1, hN⟩
end PN
