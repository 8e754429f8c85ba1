/-! THE WORLD OF A WALK: some cells of the pool, listed; all else as it was. -/
def pq_pick {α : Type} (cs : List α) (ks : List Nat) : List α := ks.filterMap (fun k => cs[k]?)
def pq_C (L : List Nat) (f : Nat → va_E) (cs : List (Nat × va_E)) : Prop := (cs.map Prod.fst).Nodup ∧ ∀ x ∈ cs, x.1 ∈ L ∧ f x.1 = x.2
/-- an object's fields, as far as they are known -/
def pq_E (N : Nat) (fs : List Value) (kv : List (Nat × Value)) : Prop := fs.length = N ∧ ∀ x ∈ kv, fs[x.1]? = some x.2
def pq_kv (kv : List (Nat × Value)) (k : Nat) (v : Value) : List (Nat × Value) := kv.map (fun x => cond (x.1 == k) (k, v) x)
theorem pq_E.set {N k : Nat} {fs : List Value} {kv : List (Nat × Value)} {v : Value} (h : pq_E N fs kv) (hk : k < N) : pq_E N (fs.set k v) (pq_kv kv k v) := by
  refine ⟨by rw [List.length_set]; exact h.1, fun y hy => ?_⟩
  obtain ⟨x, hx, rfl⟩ := List.mem_map.mp hy
  by_cases hb : (x.1 == k) = true
  · rw [hb]
    show (fs.set k v)[k]? = some v
    rw [List.getElem?_set_self (by rw [h.1]; exact hk)]
  · have hb' : (x.1 == k) = false := by simpa using hb
    rw [hb']
    have hne : k ≠ x.1 := fun q => by rw [q] at hb; simp at hb
    show (fs.set k v)[x.1]? = some x.2
    rw [List.getElem?_set_ne hne]
    exact h.2 x hx
theorem pq_E.at {N k i : Nat} {fs : List Value} {kv : List (Nat × Value)} {v : Value} (h : pq_E N fs kv) (hi : kv[i]? = some (k, v)) : fs[k]? = some v := h.2 (k, v) (List.mem_of_getElem? hi)
theorem pq_pick_mem {α : Type} {cs : List α} {ks : List Nat} {x : α} (h : x ∈ pq_pick cs ks) : x ∈ cs := by
  obtain ⟨k, -, hk⟩ := List.mem_filterMap.mp h
  exact List.mem_of_getElem? hk
theorem pq_pick_app {α : Type} {cs : List α} {js ks : List Nat} : pq_pick cs (js ++ ks) = pq_pick cs js ++ pq_pick cs ks := List.filterMap_append
theorem pq_pick_nodup {cs : List (Nat × va_E)} (h : (cs.map Prod.fst).Nodup) : ∀ ks : List Nat, ks.Nodup → ((pq_pick cs ks).map Prod.fst).Nodup
  | [], _ => List.nodup_nil
  | k :: ks, hk => by
    have ih := pq_pick_nodup h ks (List.nodup_cons.mp hk).2
    cases hc : cs[k]? with
    | none =>
      have e : pq_pick cs (k :: ks) = pq_pick cs ks := by simp [pq_pick, List.filterMap_cons, hc]
      rw [e]; exact ih
    | some y =>
      have e : pq_pick cs (k :: ks) = y :: pq_pick cs ks := by simp [pq_pick, List.filterMap_cons, hc]
      rw [e, List.map_cons]
      refine List.nodup_cons.mpr ⟨fun hm => ?_, ih⟩
      obtain ⟨z, hz, hzy⟩ := List.mem_map.mp hm
      obtain ⟨j, hj, hjz⟩ := List.mem_filterMap.mp hz
      have h1 : (cs.map Prod.fst)[k]? = some y.1 := by rw [List.getElem?_map, hc]; rfl
      have h2 : (cs.map Prod.fst)[j]? = some y.1 := by rw [List.getElem?_map, hjz]; exact congrArg some hzy
      have hlt : k < (cs.map Prod.fst).length := (List.getElem?_eq_some_iff.mp h1).1
      have := (List.getElem?_inj hlt h).mp (h1.trans h2.symm)
      exact (List.nodup_cons.mp hk).1 (this ▸ hj)
theorem pq_C.pick {L : List Nat} {f : Nat → va_E} {cs : List (Nat × va_E)} (h : pq_C L f cs) (ks : List Nat) (hk : ks.Nodup) : pq_C L f (pq_pick cs ks) := ⟨pq_pick_nodup h.1 ks hk, fun x hx => h.2 x (pq_pick_mem hx)⟩
theorem pq_C.at {L : List Nat} {f : Nat → va_E} {cs : List (Nat × va_E)} {j a : Nat} {e : va_E} (h : pq_C L f cs) (hj : cs[j]? = some (a, e)) : a ∈ L ∧ f a = e := h.2 (a, e) (List.mem_of_getElem? hj)
theorem pq_C.set {L : List Nat} {f : Nat → va_E} {cs : List (Nat × va_E)} {j a : Nat} {e e1 : va_E} (h : pq_C L f cs) (hj : cs[j]? = some (a, e)) : pq_C L (va_up f a e1) (cs.set j (a, e1)) := by
  have hm : (cs.set j (a, e1)).map Prod.fst = cs.map Prod.fst := by
    refine List.ext_getElem? fun i => ?_
    rw [List.getElem?_map, List.getElem?_map]
    by_cases hi : j = i
    · subst hi
      rw [List.getElem?_set_self (List.getElem?_eq_some_iff.mp hj).1, hj]; rfl
    · rw [List.getElem?_set_ne hi]
  refine ⟨by rw [hm]; exact h.1, fun x hx => ?_⟩
  obtain ⟨i, hi⟩ := List.getElem?_of_mem hx
  by_cases hij : j = i
  · subst hij
    rw [List.getElem?_set_self (List.getElem?_eq_some_iff.mp hj).1] at hi
    cases hi
    exact ⟨(h.at hj).1, va_up_self _ _ _⟩
  · rw [List.getElem?_set_ne hij] at hi
    have hne : x.1 ≠ a := fun q => by
      have h1 : (cs.map Prod.fst)[i]? = some a := by rw [List.getElem?_map, hi]; exact congrArg some q
      have h2 : (cs.map Prod.fst)[j]? = some a := by rw [List.getElem?_map, hj]; rfl
      exact hij ((List.getElem?_inj (List.getElem?_eq_some_iff.mp h2).1 h.1).mp (h2.trans h1.symm))
    rw [va_up_ne _ _ hne]
    exact h.2 x (List.mem_of_getElem? hi)
theorem pq_C.join {L : List Nat} {f f1 : Nat → va_E} {cs cs1 : List (Nat × va_E)} (h : pq_C L f cs) (js ks : List Nat) (hjk : (js ++ ks).Nodup) (h1 : pq_C L f1 cs1) (ha : ∀ x ∈ cs1, x.1 ∈ (pq_pick cs js).map Prod.fst) (hF : ∀ x, x ∉ (pq_pick cs js).map Prod.fst → f1 x = f x) : pq_C L f1 (cs1 ++ pq_pick cs ks) := by
  have hnd : ((pq_pick cs js).map Prod.fst ++ (pq_pick cs ks).map Prod.fst).Nodup := by
    rw [← List.map_append, ← pq_pick_app]; exact pq_pick_nodup h.1 _ hjk
  refine ⟨?_, fun x hx => ?_⟩
  · rw [List.map_append]
    refine List.nodup_append.mpr ⟨h1.1, (List.nodup_append.mp hnd).2.1, fun a h3 b h4 => ?_⟩
    obtain ⟨y, hy, rfl⟩ := List.mem_map.mp h3
    exact (List.nodup_append.mp hnd).2.2 y.1 (ha y hy) b h4
  rcases List.mem_append.mp hx with hx | hx
  · exact h1.2 x hx
  · have h2 := h.2 x (pq_pick_mem hx)
    refine ⟨h2.1, ?_⟩
    rw [hF x.1 (fun q => (List.nodup_append.mp hnd).2.2 x.1 q x.1 (List.mem_map.mpr ⟨x, hx, rfl⟩) rfl)]
    exact h2.2
/-- the world at a point of a walk: its cells cs (they lie among as), all else of the pool as f0 has it -/
def pq_W (D : va_G) (A : Nat → Prop) (H0 : Heap) (L : List Nat) (f0 : Nat → va_E) (as : List Nat) (cs : List (Nat × va_E)) (H : Heap) (locs : List Loc) : Prop :=
  ∃ f, pw_W D A H0 L f H locs ∧ pq_C L f cs ∧ (∀ x ∈ cs, x.1 ∈ as) ∧ ∀ x, x ∉ as → f x = f0 x
/-- what a method leaves: its cells with P, all else as f has it -/
def pq_S (L : List Nat) (f : Nat → va_E) (as : List Nat) (P : List (Nat × va_E) → Prop) (u : List Nat × (Nat → va_E)) : Prop :=
  u.1 = L ∧ (∃ cs1, P cs1 ∧ pq_C L u.2 cs1 ∧ ∀ x ∈ cs1, x.1 ∈ as) ∧ ∀ x, x ∉ as → u.2 x = f x
def pq_Qv (D : va_G) (sz : Nat) (L : List Nat) (f : Nat → va_E) (as : List Nat) (P : List (Nat × va_E) → Prop) := va_Qv (fun u => pq_S L f as P u) (pw_B D (pw_A L f sz)) (pw_A L f sz)
def pq_Qi (D : va_G) (sz : Nat) (L : List Nat) (f : Nat → va_E) (as : List Nat) (P : Int32 → List (Nat × va_E) → Prop) := va_Qi (fun r u => pq_S L f as (P r) u) (pw_B D (pw_A L f sz)) (pw_A L f sz)
def pq_Ql (D : va_G) (sz : Nat) (L : List Nat) (f : Nat → va_E) (as : List Nat) (P : Int64 → List (Nat × va_E) → Prop) := va_Ql (fun r u => pq_S L f as (P r) u) (pw_B D (pw_A L f sz)) (pw_A L f sz)
section PQ
variable {p : Program} {l : Launch} {e : Env} {R : Room} {s : State} {m : MethodId} {args : Array Value} {below : List Frame} {meth : Method} {c : Code} {H : Heap} {locs : List Loc} {cells slots : Nat} {Q : State → Prop}
variable {cc : ByteArray} {pc : Nat} {ls : Array Slot} {rest : List Value} {D : va_G} {cy : Nat → ClassId} {A : Nat → Prop} {a sz : Nat} {H0 : Heap} {L as : List Nat} {f f0 : Nat → va_E} {cs cs0 cs2 : List (Nat × va_E)} {Ts : List Cond}
theorem pq_start (hw : pw_W D A H0 L f H locs) (hC : pq_C L f cs) (ha : cs.map Prod.fst = as) : pq_W D A H0 L f as cs H locs := ⟨f, hw, hC, fun x hx => ha ▸ List.mem_map.mpr ⟨x, hx, rfl⟩, fun _ _ => rfl⟩
theorem pq_W.pick (h : pq_W D A H0 L f0 as cs H locs) (ks : List Nat) (hk : ks.Nodup) (hc : pq_pick cs ks = cs2) : pq_W D A H0 L f0 as cs2 H locs := by
  obtain ⟨f, hw, hC, ha, hF⟩ := h
  subst hc
  exact ⟨f, hw, hC.pick ks hk, fun x hx => ha x (pq_pick_mem hx), hF⟩
/-- a computed number gets the name that it has -/
theorem pq_topi {x y : Int32} (h : x = y) (k : W p l e R s m args below meth c H locs cells slots Q (F0 m pc ls (.int y :: rest))) : W p l e R s m args below meth c H locs cells slots Q (F0 m pc ls (.int x :: rest)) := h ▸ k
theorem pq_back {L1 : List Nat} {f1 : Nat → va_E} {H1 : Heap} {locs1 : List Loc} {P : List (Nat × va_E) → Prop} (hw1 : pw_W D A H0 L1 f1 H1 locs1) (hC : pq_C L f cs) (ha : ∀ x ∈ cs, x.1 ∈ as) (hF : ∀ x, x ∉ as → f x = f0 x) (js ks : List Nat) (hjk : (js ++ ks).Nodup) (h0 : pq_pick cs js = cs0) (h2 : pq_pick cs ks = cs2) (hS : pq_S L f (cs0.map Prod.fst) P (L1, f1)) : ∃ cs1, P cs1 ∧ pq_W D A H0 L f0 as (cs1 ++ cs2) H1 locs1 := by
  obtain ⟨hL, ⟨cs1, hP, hC1, hm⟩, hF1⟩ := hS
  dsimp only at hL hC1 hF1
  subst hL h0 h2
  have has : ∀ x, x ∈ (pq_pick cs js).map Prod.fst → x ∈ as := fun x hx => by
    obtain ⟨y, hy, rfl⟩ := List.mem_map.mp hx
    exact ha y (pq_pick_mem hy)
  refine ⟨cs1, hP, f1, hw1, hC.join js ks hjk hC1 hm hF1, fun x hx => ?_, fun x hx => ?_⟩
  · rcases List.mem_append.mp hx with h | h
    · exact has _ (hm x h)
    · exact ha x (pq_pick_mem h)
  · rw [hF1 x (fun q => hx (has x q))]; exact hF x hx
theorem pq_callv {mc ms : Nat} {st0 : List Value} {a : Array Value} {P : List (Nat × va_E) → Prop} (hW : pq_W D A s.heap L f0 as cs H locs) (js ks : List Nat) (hjk : (js ++ ks).Nodup) (h0 : pq_pick cs js = cs0) (h2 : pq_pick cs ks = cs2)
    (hr : ∀ f, pw_W D A s.heap L f H locs → pq_C L f cs0 → va_Run p l e R s m args below meth c H locs cells slots mc ms (F0 m pc ls st0) rest (pq_Qv D H.size L f (cs0.map Prod.fst) P a) (pw_A L f H.size))
    (kk : ∀ (cs1 : List (Nat × va_E)) (H1 : Heap) (locs1 : List Loc), P cs1 → pq_W D A s.heap L f0 as (cs1 ++ cs2) H1 locs1 → W p l e R s m args below meth c H1 locs1 (cells + mc) (slots + ms) Q (F0 m (pc + 3) ls rest)) : W p l e R s m args below meth c H locs cells slots Q (F0 m pc ls st0) := by
  obtain ⟨f, hw, hC, ha, hF⟩ := hW
  have hC0 : pq_C L f cs0 := h0 ▸ hC.pick js (List.nodup_append.mp hjk).1
  refine pw_callv hw (hr f hw hC0) (fun L1 f1 H1 locs1 hw1 hS => ?_)
  obtain ⟨cs1, hP, h9⟩ := pq_back hw1 hC ha hF js ks hjk h0 h2 hS
  exact kk cs1 H1 locs1 hP h9
theorem pq_calli {mc ms : Nat} {st0 : List Value} {a : Array Value} {P : Int32 → List (Nat × va_E) → Prop} (hW : pq_W D A s.heap L f0 as cs H locs) (js ks : List Nat) (hjk : (js ++ ks).Nodup) (h0 : pq_pick cs js = cs0) (h2 : pq_pick cs ks = cs2)
    (hr : ∀ f, pw_W D A s.heap L f H locs → pq_C L f cs0 → va_Run p l e R s m args below meth c H locs cells slots mc ms (F0 m pc ls st0) rest (pq_Qi D H.size L f (cs0.map Prod.fst) P a) (pw_A L f H.size))
    (kk : ∀ (r : Int32) (cs1 : List (Nat × va_E)) (H1 : Heap) (locs1 : List Loc), P r cs1 → pq_W D A s.heap L f0 as (cs1 ++ cs2) H1 locs1 → W p l e R s m args below meth c H1 locs1 (cells + mc) (slots + ms) Q (F0 m (pc + 3) ls (.int r :: rest))) : W p l e R s m args below meth c H locs cells slots Q (F0 m pc ls st0) := by
  obtain ⟨f, hw, hC, ha, hF⟩ := hW
  have hC0 : pq_C L f cs0 := h0 ▸ hC.pick js (List.nodup_append.mp hjk).1
  have hsub : ∀ q, pw_A L f H.size q → A q := fun q h => by
    rcases h with ⟨k, e1, h⟩ | h
    · exact hw.2.1.2 k _ h
    · exact hw.2.2.2 q (Nat.le_trans hw.2.2.1.1 h)
  refine va_calli (hr f hw hC0) hw.2.2.1 (fun q _ h => hsub q h) hsub (fun r u t H1 locs1 ht _ hp hB _ _ hS => ?_)
  obtain ⟨L1, f1⟩ := u
  obtain ⟨hP1, hD1⟩ := hB
  rw [ht] at hP1
  obtain ⟨cs1, hP, h9⟩ := pq_back ⟨hP1, hD1.weaken (fun k q _ h => hsub q.1 h), hS, hw.2.2.2⟩ hC ha hF js ks hjk h0 h2 hp
  exact kk r cs1 H1 locs1 hP h9
/-- the world at the end, as a method's end wants it -/
theorem pq_end {P : List (Nat × va_E) → Prop} (hW : pq_W D A H0 L f0 as cs H locs) (hp : P cs) : ∃ f, pw_W D A H0 L f H locs ∧ pq_S L f0 as P (L, f) := by
  obtain ⟨f, hw, hC, ha, hF⟩ := hW
  exact ⟨f, hw, rfl, ⟨cs, hp, hC, ha⟩, hF⟩
theorem pq_vret {P : List (Nat × va_E) → Prop} (hexec : p.tables.exec = Jvm.exec) (hb : c.code = cc) (hr : meth.sig.returnType = none) (hlocks : meth.locks = false) (hW : pq_W D (pw_A L f0 sz) s.heap L f0 as cs H locs) (hp : P cs) (hdg : decode cc pc = .ok (.return_, 1)) :
    W p l e R s m args below meth c H locs cells slots (MQ below (pq_Qv D sz L f0 as P) args s cells slots (pw_A L f0 sz)) (F0 m pc ls []) := by
  obtain ⟨f, hw, hS⟩ := pq_end hW hp
  exact W.vret hexec hb hr (fun t ht hW => ⟨⟨(L, f), rfl, hS, by rw [ht]; exact hw.1, hw.2.1⟩, hw.2.2.1.F ht⟩) hw.2.2.1.2.2 hdg
theorem pq_iret {P : Int32 → List (Nat × va_E) → Prop} {ty : FieldType} (hexec : p.tables.exec = Jvm.exec) (hb : c.code = cc) (hr : meth.sig.returnType = some ty) (hlocks : meth.locks = false) {x : Int32} (hn : narrow ty (.int x) = .int x) (hW : pq_W D (pw_A L f0 sz) s.heap L f0 as cs H locs) (hp : P x cs) (hdg : decode cc pc = .ok (.ireturn, 1)) :
    W p l e R s m args below meth c H locs cells slots (MQ below (pq_Qi D sz L f0 as P) args s cells slots (pw_A L f0 sz)) (F0 m pc ls [.int x]) := by
  obtain ⟨f, hw, hS⟩ := pq_end (P := P x) hW hp
  exact W.zret hexec hb hr hn (fun t ht hW => ⟨⟨x, (L, f), rfl, hS, by rw [ht]; exact hw.1, hw.2.1⟩, hw.2.2.1.F ht⟩) hw.2.2.1.2.2 hdg
theorem pq_lret {P : Int64 → List (Nat × va_E) → Prop} (hexec : p.tables.exec = Jvm.exec) (hb : c.code = cc) (hr : meth.sig.returnType = some .long) (hlocks : meth.locks = false) {x : Int64} (hW : pq_W D (pw_A L f0 sz) s.heap L f0 as cs H locs) (hp : P x cs) (hdg : decode cc pc = .ok (.lreturn, 1)) :
    W p l e R s m args below meth c H locs cells slots (MQ below (pq_Ql D sz L f0 as P) args s cells slots (pw_A L f0 sz)) (F0 m pc ls [.long x]) := by
  obtain ⟨f, hw, hS⟩ := pq_end (P := P x) hW hp
  exact W.lret hexec hb hr (fun t ht hW => ⟨⟨x, (L, f), rfl, hS, by rw [ht]; exact hw.1, hw.2.1⟩, hw.2.2.1.F ht⟩) hw.2.2.1.2.2 hdg
end PQ
