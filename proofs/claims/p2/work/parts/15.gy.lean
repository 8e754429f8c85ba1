/-! CELLS, CALLS, PATHS: a method's run as a path of values over the pool, and its contract out of that path. -/
abbrev gx_S : Type := Nat × List (Nat × Value) × List Value × (Nat → va_E)
/-- a method: its name, its bytes, its locals, what it returns -/
abbrev gx_M : Type := MethodName × ByteArray × Nat × Option FieldType
def gx_code (M : gx_M) : Cond := Cond.code M.1 M.2.1 M.2.2.1 M.2.2.2
def gx_fl (ws0 : List Cond) (own : String) (ix ci k : Nat) : Prop := ∃ (C : String) (T : u_T) (n : Nat), vwCl[ci]? = some (C, T, n) ∧ k < n ∧ (∀ w ∈ u_ws C T n, w ∈ ws0) ∧ Cond.fieldLink own ix (T k).1 (T k).2.1 (T k).2.2.1 ∈ ws0
def gx_fp (ws0 : List Cond) (own : String) (ix ci k : Nat) (ty : FieldType) : Prop := ∃ (C : String) (T : u_T) (n : Nat) (ty0 : Nat → FieldType), vwCl[ci]? = some (C, T, n) ∧ k < n ∧ (∀ w ∈ u_ws C T n, w ∈ ws0) ∧ Cond.fieldLink own ix (T k).1 (T k).2.1 (T k).2.2.1 ∈ ws0 ∧ (∀ k, k < n → parseFieldDescriptor (T k).2.2.1 = some (ty0 k)) ∧ (∀ a, a < n → ∀ b, b < n → a ≠ b → (T a).2.1 ≠ (T b).2.1) ∧ (T k).2.2.2 = false ∧ ty0 k = ty
def gx_lV (ws0 : List Cond) (own : String) (ix : Nat) (M : gx_M) (n : Nat) : Prop := gx_code M ∈ ws0 ∧ Cond.methodLink own ix M.1 ∈ ws0 ∧ Cond.instanceMethod M.1 ∈ ws0 ∧ Cond.selects M.1.cls M.1 M.1 ∈ ws0 ∧ Cond.initialized M.1.cls ∈ ws0 ∧ (M.1.cls ≠ "java/lang/invoke/MethodHandle" ∧ M.1.cls ≠ "java/lang/invoke/VarHandle" ∧ (parseMethodDescriptor M.1.desc).map (fun d => d.parameters.length) = some n) ∧ M.2.2.1 ≤ 45
def gx_lS (ws0 : List Cond) (own : String) (ix : Nat) (M : gx_M) (n : Nat) : Prop := gx_code M ∈ ws0 ∧ Cond.methodLink own ix M.1 ∈ ws0 ∧ Cond.static M.1 ∈ ws0 ∧ Cond.initialized M.1.cls ∈ ws0 ∧ (M.1.cls ≠ "java/lang/invoke/MethodHandle" ∧ M.1.cls ≠ "java/lang/invoke/VarHandle" ∧ (parseMethodDescriptor M.1.desc).map (fun d => d.parameters.length) = some n) ∧ M.2.2.1 ≤ 45
/-- what an instruction that reads or writes a cell, or a constant, does -/
def gx_heap (ws0 : List Cond) (cy : Nat → ClassId) (L : List Nat) (own : String) (pc : Nat) (st : List Value) (f : Nat → va_E) (pc' : Nat) (st' : List Value) (f' : Nat → va_E) (i : Instr) : Prop := match i with
  | .getfield ix => ∃ (a : Nat) (r : List Value) (ci k : Nat) (fs : List Value) (v : Value), st = .ref a :: r ∧ a ∈ L ∧ f a = .inr (ci, fs) ∧ gx_fl ws0 own ix ci k ∧ fs[k]? = some v ∧ pc' = pc + 3 ∧ st' = v :: r ∧ f' = f
  | .putfield ix => ∃ (v : Value) (a : Nat) (r : List Value) (ci k : Nat) (fs : List Value) (ty : FieldType), st = v :: .ref a :: r ∧ a ∈ L ∧ f a = .inr (ci, fs) ∧ gx_fp ws0 own ix ci k ty ∧ k < fs.length ∧ narrow ty v = v ∧ fits ty v = true ∧ pc' = pc + 3 ∧ st' = r ∧ f' = va_up f a (.inr (ci, fs.set k v))
  | .iaload => ∃ (j : Int32) (a : Nat) (r : List Value) (n : Nat) (g : Nat → Int32), st = .int j :: .ref a :: r ∧ a ∈ L ∧ f a = .inl (cy 1, n, .inl g) ∧ vp_in j n ∧ pc' = pc + 1 ∧ st' = .int (g j.toNatClampNeg) :: r ∧ f' = f
  | .baload => ∃ (j : Int32) (a : Nat) (r : List Value) (n : Nat) (g : Nat → Int32), st = .int j :: .ref a :: r ∧ a ∈ L ∧ (f a = .inl (cy 0, n, .inl g) ∨ f a = .inl (cy 3, n, .inl g)) ∧ vp_in j n ∧ pc' = pc + 1 ∧ st' = .int (g j.toNatClampNeg) :: r ∧ f' = f
  | .laload => ∃ (j : Int32) (a : Nat) (r : List Value) (n : Nat) (g : Nat → Int64), st = .int j :: .ref a :: r ∧ a ∈ L ∧ f a = .inl (cy 2, n, .inr (.inl g)) ∧ vp_in j n ∧ pc' = pc + 1 ∧ st' = .long (g j.toNatClampNeg) :: r ∧ f' = f
  | .aaload => ∃ (j : Int32) (a : Nat) (r : List Value) (n t0 : Nat) (ty : FieldType) (g : Nat → Option Nat), st = .int j :: .ref a :: r ∧ a ∈ L ∧ f a = .inl (cy t0, n, .inr (.inr (.inr (.inr g)))) ∧ (pw_T cy)[t0]? = some (cy t0, ty) ∧ ty.isReference = true ∧ vp_in j n ∧ pc' = pc + 1 ∧ st' = va_rf (g j.toNatClampNeg) :: r ∧ f' = f
  | .arraylength => ∃ (a : Nat) (r : List Value) (t0 : Nat) (x : vp_A) (ty : FieldType), st = .ref a :: r ∧ a ∈ L ∧ f a = .inl (cy t0, x) ∧ (pw_T cy)[t0]? = some (cy t0, ty) ∧ pc' = pc + 1 ∧ st' = .int (Int32.ofNat x.1) :: r ∧ f' = f
  | .iastore => ∃ (x j : Int32) (a : Nat) (r : List Value) (n : Nat) (g : Nat → Int32), st = .int x :: .int j :: .ref a :: r ∧ a ∈ L ∧ f a = .inl (cy 1, n, .inl g) ∧ vp_in j n ∧ pc' = pc + 1 ∧ st' = r ∧ f' = va_up f a (.inl (cy 1, n, .inl (upd g j.toNatClampNeg x)))
  | .bastore => ∃ (x j : Int32) (a : Nat) (r : List Value) (n : Nat) (g : Nat → Int32), st = .int x :: .int j :: .ref a :: r ∧ a ∈ L ∧ vp_in j n ∧ pc' = pc + 1 ∧ st' = r ∧ ((f a = .inl (cy 0, n, .inl g) ∧ f' = va_up f a (.inl (cy 0, n, .inl (upd g j.toNatClampNeg (vp_nar .byte x))))) ∨ (f a = .inl (cy 3, n, .inl g) ∧ f' = va_up f a (.inl (cy 3, n, .inl (upd g j.toNatClampNeg (vp_nar .boolean x))))))
  | .lastore => ∃ (x : Int64) (j : Int32) (a : Nat) (r : List Value) (n : Nat) (g : Nat → Int64), st = .long x :: .int j :: .ref a :: r ∧ a ∈ L ∧ f a = .inl (cy 2, n, .inr (.inl g)) ∧ vp_in j n ∧ pc' = pc + 1 ∧ st' = r ∧ f' = va_up f a (.inl (cy 2, n, .inr (.inl (vp_updL g j.toNatClampNeg x))))
  | .ldc ix => ∃ v : Int32, Cond.constant own ix v ∈ ws0 ∧ pc' = pc + 2 ∧ st' = .int v :: st ∧ f' = f
  | .ldc_w ix => ∃ v : Int32, Cond.constant own ix v ∈ ws0 ∧ pc' = pc + 3 ∧ st' = .int v :: st ∧ f' = f
  | .ldc2_w ix => ∃ v : Int64, Cond.constantLong own ix v ∈ ws0 ∧ pc' = pc + 3 ∧ st' = .long v :: st ∧ f' = f
  | _ => False
/-- what a call does: K says what the callee does -/
def gx_call (ws0 : List Cond) (L : List Nat) (own : String) (K : gx_M → List Value → (Nat → va_E) → Option Value → (Nat → va_E) → Prop) (pc : Nat) (st : List Value) (f : Nat → va_E) (pc' : Nat) (st' : List Value) (f' : Nat → va_E) (i : Instr) : Prop := match i with
  | .invokevirtual ix => ∃ (M : gx_M) (As : List Value) (b : Nat) (r : List Value) (ci : Nat) (fs : List Value) (T : u_T) (n : Nat) (res : Option Value), st = As.reverse ++ .ref b :: r ∧ b ∈ L ∧ f b = .inr (ci, fs) ∧ vwCl[ci]? = some (M.1.cls, T, n) ∧ gx_lV ws0 own ix M As.length ∧ (r.map fun v => v.category).sum ≤ 8 ∧ K M (.ref b :: As) f res f' ∧ pc' = pc + 3 ∧ st' = res.toList ++ r
  | .invokestatic ix => ∃ (M : gx_M) (As : List Value) (r : List Value) (res : Option Value), st = As.reverse ++ r ∧ gx_lS ws0 own ix M As.length ∧ (r.map fun v => v.category).sum ≤ 8 ∧ K M As f res f' ∧ pc' = pc + 3 ∧ st' = res.toList ++ r
  | _ => False
/-- one instruction -/
def gx_one (ws0 : List Cond) (cy : Nat → ClassId) (L : List Nat) (own : String) (cc : ByteArray) (N : Nat) (K : gx_M → List Value → (Nat → va_E) → Option Value → (Nat → va_E) → Prop) (u v : gx_S) : Prop :=
  ∃ i, gx_dec cc u.1 i ∧ ((gx_pure u.1 N u.2.1 u.2.2.1 i = some (v.1, v.2.1, v.2.2.1) ∧ v.2.2.2 = u.2.2.2) ∨ (v.2.1 = u.2.1 ∧ gx_heap ws0 cy L own u.1 u.2.2.1 u.2.2.2 v.1 v.2.2.1 v.2.2.2 i) ∨ (v.2.1 = u.2.1 ∧ gx_call ws0 L own K u.1 u.2.2.1 u.2.2.2 v.1 v.2.2.1 v.2.2.2 i))
def gx_to (one : gx_S → gx_S → Prop) : Nat → gx_S → gx_S → Prop
  | 0, u, v => u = v
  | n + 1, u, v => ∃ w, one u w ∧ gx_to one n w v
/-- the end: a return -/
def gx_fin (cc : ByteArray) (ret : Option FieldType) (u : gx_S) (r : Option Value) : Prop :=
  (gx_dec cc u.1 .return_ ∧ ret = none ∧ u.2.2.1 = [] ∧ r = none) ∨
  (∃ (x : Int32) (ty : FieldType), gx_dec cc u.1 .ireturn ∧ ret = some ty ∧ narrow ty (.int x) = .int x ∧ u.2.2.1 = [.int x] ∧ r = some (.int x)) ∨
  (∃ x : Int64, gx_dec cc u.1 .lreturn ∧ ret = some .long ∧ u.2.2.1 = [.long x] ∧ r = some (.long x)) ∨
  (∃ (x : Option Nat) (rt : FieldType), gx_dec cc u.1 .areturn ∧ ret = some rt ∧ ((∃ n, rt = .object n) ∨ ∃ t, rt = .array t) ∧ u.2.2.1 = [va_rf x] ∧ r = some (va_rf x))
/-- a method's run, with at most d methods open at once -/
def gx_Ev (ws0 : List Cond) (cy : Nat → ClassId) (L : List Nat) : Nat → gx_M → List Value → (Nat → va_E) → Option Value → (Nat → va_E) → Prop
  | 0 => fun _ _ _ _ _ => False
  | d + 1 => fun M av f r f' => (lg_sl av).length ≤ M.2.2.1 ∧ ∃ (n : Nat) (u : gx_S), gx_to (gx_one ws0 cy L M.1.cls M.2.1 M.2.2.1 (gx_Ev ws0 cy L d)) n (0, lv_args 0 av, [], f) u ∧ gx_fin M.2.1 M.2.2.2 u r ∧ u.2.2.2 = f'
def gx_rm (d : Nat) : Room := { frames := d, cells := 0, slots := 0, locals := 64 * d }
def gx_Q (D : va_G) (A : Nat → Prop) (L : List Nat) (r : Option Value) (f' : Nat → va_E) : Array Value → State → Outcome → State → Prop := fun _ st oc t => (oc = .returned r ∧ pw_B D A (L, f') t) ∧ va_F A st t
def gx_Met (l : Launch) (D : va_G) (cy : Nat → ClassId) (ws0 : List Cond) (L : List Nat) (d : Nat) (M : gx_M) (av : List Value) (f : Nat → va_E) (r : Option Value) (f' : Nat → va_E) : Prop :=
  ∀ sz, Met l M.1 (gx_code M :: ws0) (gx_rm d) (pw_Pc D cy av sz L f) (gx_Q D (pw_A L f sz) L r f') 0 0 (pw_A L f sz)
theorem gx_gV {ws0 : List Cond} (hg : ∀ w ∈ ws0, goodWord w = true) {own : String} {ix n : Nat} {M : gx_M} (h : gx_lV ws0 own ix M n) : GoodIn ws0 (wsV own ix M.1.cls M.1 (gx_code M :: ws0)) := fun w hw => by
  obtain ⟨h0, h1, h2, h3, h4, -⟩ := h
  have h9 : w ∈ ws0 := by
    rcases List.mem_append.mp hw with hw | hw
    · rcases List.mem_cons.mp hw with rfl | hw
      · exact h1
      rcases List.mem_cons.mp hw with rfl | hw
      · exact h2
      rcases List.mem_cons.mp hw with rfl | hw
      · exact h3
      rcases List.mem_cons.mp hw with rfl | hw
      · exact h4
      exact absurd hw List.not_mem_nil
    · rcases List.mem_cons.mp hw with rfl | hw
      · exact h0
      · exact hw
  exact ⟨h9, good_of_word (hg w h9)⟩
theorem gx_gS {ws0 : List Cond} (hg : ∀ w ∈ ws0, goodWord w = true) {own : String} {ix n : Nat} {M : gx_M} (h : gx_lS ws0 own ix M n) : GoodIn ws0 (va_wsS own ix M.1 (gx_code M :: ws0)) := fun w hw => by
  obtain ⟨h0, h1, h2, h3, -⟩ := h
  have h9 : w ∈ ws0 := by
    rcases List.mem_append.mp hw with hw | hw
    · rcases List.mem_cons.mp hw with rfl | hw
      · exact h1
      rcases List.mem_cons.mp hw with rfl | hw
      · exact h2
      rcases List.mem_cons.mp hw with rfl | hw
      · exact h3
      exact absurd hw List.not_mem_nil
    · rcases List.mem_cons.mp hw with rfl | hw
      · exact h0
      · exact hw
  exact ⟨h9, good_of_word (hg w h9)⟩
section GY
variable {p : Program} {l : Launch} {e : Env} {R : Room} {s : State} {m : MethodId} {args : Array Value} {below : List Frame} {meth : Method} {c : Code} {H : Heap} {locs : List Loc} {cells slots : Nat} {Q : State → Prop}
variable {cc : ByteArray} {pc pc' N d : Nat} {ls : Array Slot} {st st' : List Value} {i : Instr} {D : va_G} {cy : Nat → ClassId} {A : Nat → Prop} {L : List Nat} {f f' : Nat → va_E} {ws0 : List Cond} {own : String}
theorem gx_heap_ok (hx : p.tables.exec = Jvm.exec) (hb : c.code = cc) (hts : ∀ w ∈ ws0, w.before args s = true) (hown : s.vm.findClass own = some m.cls) (hG : pw_G D cy s) (hd : gx_dec cc pc i) (hw : pw_W D A s.heap L f H locs) (hs : gx_heap ws0 cy L own pc st f pc' st' f' i)
    (kk : ∀ (H1 : Heap) (locs1 : List Loc), pw_W D A s.heap L f' H1 locs1 → W p l e R s m args below meth c H1 locs1 cells slots Q (F0 m pc' ls st')) : W p l e R s m args below meth c H locs cells slots Q (F0 m pc ls st) := by
  unfold gx_heap at hs
  split at hs
  · obtain ⟨a, r, ci, k, fs, v, rfl, ha, he, ⟨C, T, n, hc, hk, hin, hlink⟩, hv, rfl, rfl, rfl⟩ := hs
    exact pw_get hx hb hts hin hown hG hw ha he hc k hk (hts _ hlink) (fun _ h => h) hv (gx_d hd rfl rfl) (kk H locs hw)
  · obtain ⟨v, a, r, ci, k, fs, ty, rfl, ha, he, ⟨C, T, n, ty0, hc, hk, hin, hlink, hty, hnm, hfin, rfl⟩, hlen, hn, hfit, rfl, rfl, rfl⟩ := hs
    exact pw_put hx hb hts hin ty0 hty hnm hown hG hw ha he hc k hk (hts _ hlink) (fun _ h => h) hfin (hty k hk) hn hfit hlen (gx_d hd rfl rfl) kk
  · obtain ⟨j, a, r, n, g, rfl, ha, he, hin, rfl, rfl, rfl⟩ := hs
    obtain ⟨k0, hk0⟩ := va_pl_get (X := []) (f := f') ha
    rw [he] at hk0
    exact va_iald hx hb hG.1 hw.1 k0 1 hk0 rfl hin (gx_d hd rfl rfl) (kk H locs hw)
  · obtain ⟨j, a, r, n, g, rfl, ha, he, hin, rfl, rfl, rfl⟩ := hs
    obtain ⟨k0, hk0⟩ := va_pl_get (X := []) (f := f') ha
    rcases he with he | he
    · rw [he] at hk0
      exact va_bald hx hb hG.1 hw.1 k0 0 hk0 rfl hin (gx_d hd rfl rfl) (kk H locs hw)
    · rw [he] at hk0
      exact va_zald hx hb hG.1 hw.1 k0 3 hk0 rfl hin (gx_d hd rfl rfl) (kk H locs hw)
  · obtain ⟨j, a, r, n, g, rfl, ha, he, hin, rfl, rfl, rfl⟩ := hs
    obtain ⟨k0, hk0⟩ := va_pl_get (X := []) (f := f') ha
    rw [he] at hk0
    exact va_lald hx hb hG.1 hw.1 k0 2 hk0 rfl hin (gx_d hd rfl rfl) (kk H locs hw)
  · obtain ⟨j, a, r, n, t0, ty, g, rfl, ha, he, ht, hty, hin, rfl, rfl, rfl⟩ := hs
    obtain ⟨k0, hk0⟩ := va_pl_get (X := []) (f := f') ha
    rw [he] at hk0
    have hlt : j.toNatClampNeg < n := Nat.not_le.mp fun q => hin (Or.inr q)
    exact W.aald (v := va_rf (g j.toNatClampNeg)) (ty := ty) hx hb (hw.1 k0 _ hk0) ((hG.1.2 t0 (cy t0, ty) ht).1 n (fun j => va_rf (g j))) hty (fun q => by cases q) (by show ¬ (j < 0 ∨ (arrV _ _ _).slots.size ≤ _); rw [arrV_size]; exact hin) (by show (arrV _ _ _).slots[_]? = _; rw [arrV_read _ _ hlt]) rfl rfl (gx_d hd rfl rfl) (kk H locs hw)
  · obtain ⟨a, r, t0, x, ty, rfl, ha, he, ht, rfl, rfl, rfl⟩ := hs
    obtain ⟨k0, hk0⟩ := va_pl_get (X := []) (f := f') ha
    rw [he] at hk0
    exact va_alen hx hb hG.1 hw.1 k0 t0 hk0 ht rfl (gx_d hd rfl rfl) (kk H locs hw)
  · obtain ⟨x, j, a, r, n, g, rfl, ha, he, hin, rfl, rfl, rfl⟩ := hs
    obtain ⟨k0, hk0⟩ := va_pl_get (X := []) (f := f) ha
    have hk1 := hk0
    rw [he] at hk0
    exact va_iast hx hb hG.1 hw.1 hw.2.1 hw.2.2.1 k0 1 hk0 rfl hin (gx_d hd rfl rfl) (fun H1 locs1 hP hD hS => kk H1 locs1 (pw_set hw ha hk1 hP hD hS))
  · obtain ⟨x, j, a, r, n, g, rfl, ha, hin, rfl, rfl, ⟨he, rfl⟩ | ⟨he, rfl⟩⟩ := hs
    · obtain ⟨k0, hk0⟩ := va_pl_get (X := []) (f := f) ha
      have hk1 := hk0
      rw [he] at hk0
      exact va_bast hx hb hG.1 hw.1 hw.2.1 hw.2.2.1 k0 0 hk0 rfl hin (gx_d hd rfl rfl) (fun H1 locs1 hP hD hS => kk H1 locs1 (pw_set hw ha hk1 hP hD hS))
    · obtain ⟨k0, hk0⟩ := va_pl_get (X := []) (f := f) ha
      have hk1 := hk0
      rw [he] at hk0
      exact va_zast hx hb hG.1 hw.1 hw.2.1 hw.2.2.1 k0 3 hk0 rfl hin (gx_d hd rfl rfl) (fun H1 locs1 hP hD hS => kk H1 locs1 (pw_set hw ha hk1 hP hD hS))
  · obtain ⟨x, j, a, r, n, g, rfl, ha, he, hin, rfl, rfl, rfl⟩ := hs
    obtain ⟨k0, hk0⟩ := va_pl_get (X := []) (f := f) ha
    have hk1 := hk0
    rw [he] at hk0
    exact va_last hx hb hG.1 hw.1 hw.2.1 hw.2.2.1 k0 2 hk0 rfl hin (gx_d hd rfl rfl) (fun H1 locs1 hP hD hS => kk H1 locs1 (pw_set hw ha hk1 hP hD hS))
  · obtain ⟨v, hc, rfl, rfl, rfl⟩ := hs
    exact lv_ldc hx hb hown (hts _ hc) (gx_d hd rfl rfl) (kk H locs hw)
  · obtain ⟨v, hc, rfl, rfl, rfl⟩ := hs
    exact lv_ldcw hx hb hown (hts _ hc) (gx_d hd rfl rfl) (kk H locs hw)
  · obtain ⟨v, hc, rfl, rfl, rfl⟩ := hs
    exact lv_ldc2 hx hb hown (hts _ hc) (gx_d hd rfl rfl) (kk H locs hw)
  · exact hs.elim
/-- behind a call, whatever it answers -/
theorem gx_behind {st0 rest : List Value} {a : Array Value} {r : Option Value} (hw : pw_W D A s.heap L f H locs)
    (hr : va_Run p l e R s m args below meth c H locs cells slots 0 0 (F0 m pc ls st0) rest (gx_Q D (pw_A L f H.size) L r f' a) (pw_A L f H.size))
    (kk : ∀ (H1 : Heap) (locs1 : List Loc), pw_W D A s.heap L f' H1 locs1 → W p l e R s m args below meth c H1 locs1 cells slots Q (F0 m (pc + 3) ls (r.toList ++ rest))) : W p l e R s m args below meth c H locs cells slots Q (F0 m pc ls st0) := by
  have hF : ∀ q, pw_A L f H.size q → A q := fun q h => by
    rcases h with ⟨k, e1, h⟩ | h
    · exact hw.2.1.2 k _ h
    · exact hw.2.2.2 q (Nat.le_trans hw.2.2.1.1 h)
  intro T hT X
  obtain ⟨v, st₀, t, T', L9, h0, X', hL, e1, e2, ⟨⟨hv, hP1, hD1⟩, hz, hk⟩, sg⟩ := hr T hT X
  cases hv
  rw [h0] at hz hk
  obtain ⟨t2, a1, b1⟩ := kk T'.heap (locs ++ L9) ⟨by rw [e1]; exact hP1, hD1.weaken (fun k q _ h => hF q.1 h), ⟨Nat.le_trans hw.2.2.1.1 (by rw [e1]; exact hz), fun q h1 h2 => by rw [e1, hk q (Nat.lt_of_lt_of_le h1 hw.2.2.1.1) (fun z => h2 (hF q z))]; exact hw.2.2.1.2.1 q h1 h2, fun q hq => by
      rcases List.mem_append.mp hq with h | h
      · exact hw.2.2.1.2.2 q h
      · exact hF _ (hL q h)⟩, hw.2.2.2⟩ T' rfl X'
  exact ⟨t2, sg t2 a1, b1⟩
theorem gx_call_ok (hg : ∀ w ∈ ws0, goodWord w = true) (hx : p.tables.exec = Jvm.exec) (hb : c.code = cc) (hml : c.maxLocals = N) (hl : ls.size = N) (hts : ∀ w ∈ ws0, w.before args s = true) (hown : s.vm.findClass own = some m.cls) (hG : pw_G D cy s) (hd : gx_dec cc pc i) (hw : pw_W D A s.heap L f H locs)
    {K : gx_M → List Value → (Nat → va_E) → Option Value → (Nat → va_E) → Prop} (hK : ∀ M av f r f', gx_code M ∈ ws0 → K M av f r f' → gx_Met l D cy ws0 L d M av f r f') (hR : d + 1 ≤ R.frames ∧ 64 * (d + 1) ≤ R.locals) (hf : cells ≤ R.cells ∧ slots ≤ R.slots) (hs : gx_call ws0 L own K pc st f pc' st' f' i)
    (kk : ∀ (H1 : Heap) (locs1 : List Loc), pw_W D A s.heap L f' H1 locs1 → W p l e R s m args below meth c H1 locs1 cells slots Q (F0 m pc' ls st')) : W p l e R s m args below meth c H locs cells slots Q (F0 m pc ls st) := by
  unfold gx_call at hs
  split at hs
  · obtain ⟨M, As, b, r, ci, fs, T, n, res, rfl, hb1, hfb, hc, hV, h8, hk, rfl, rfl⟩ := hs
    have hrm : (gx_rm d).frames + 1 ≤ R.frames ∧ 8 + (M.2.2.1 + 11) + (gx_rm d).locals ≤ R.locals := ⟨hR.1, by have := hV.2.2.2.2.2.2; have := hR.2; show 8 + (M.2.2.1 + 11) + 64 * d ≤ R.locals; omega⟩
    obtain ⟨k0, hk0⟩ := va_pl_get (X := []) (f := f) hb1
    rw [hfb] at hk0
    exact gx_behind hw (va_runV (C := M.1.cls) (As := As) (rest := r) ⟨hx, hb, hml, hown, hts⟩ (hK M _ f res f' hV.1 hk H.size) (cwV As.length hts (gx_gV hg hV) rfl rfl rfl ⟨rfl, hV.2.2.2.2.2.1⟩ hrm) ⟨pw_blind, va_recv hG.1 hw.1 hc hk0, (pw_pre hG hw).2⟩ rfl rfl hl rfl (lv_room h8) (gx_d hd rfl rfl) hf) kk
  · obtain ⟨M, As, r, res, rfl, hV, h8, hk, rfl, rfl⟩ := hs
    have hrm : (gx_rm d).frames + 1 ≤ R.frames ∧ 8 + (M.2.2.1 + 11) + (gx_rm d).locals ≤ R.locals := ⟨hR.1, by have := hV.2.2.2.2.2; have := hR.2; show 8 + (M.2.2.1 + 11) + 64 * d ≤ R.locals; omega⟩
    exact gx_behind hw (va_runS (As := As) (rest := r) ⟨hx, hb, hml, hown, hts⟩ (hK M _ f res f' hV.1 hk H.size) (va_cwS As.length hts (gx_gS hg hV) rfl rfl rfl hV.2.2.2.2.1 hrm) (pw_pre hG hw) rfl rfl hl rfl (lv_room h8) (gx_d hd rfl rfl) hf) kk
  · exact hs.elim
theorem gx_one_ok (hg : ∀ w ∈ ws0, goodWord w = true) (hx : p.tables.exec = Jvm.exec) (hb : c.code = cc) (hml : c.maxLocals = N) (hts : ∀ w ∈ ws0, w.before args s = true) (hown : s.vm.findClass own = some m.cls) (hG : pw_G D cy s)
    {K : gx_M → List Value → (Nat → va_E) → Option Value → (Nat → va_E) → Prop} (hK : ∀ M av f r f', gx_code M ∈ ws0 → K M av f r f' → gx_Met l D cy ws0 L d M av f r f') (hR : d + 1 ≤ R.frames ∧ 64 * (d + 1) ≤ R.locals) (hf : cells ≤ R.cells ∧ slots ≤ R.slots) {u v : gx_S} (hs : gx_one ws0 cy L own cc N K u v) (hl : lv_has ls N u.2.1) (hw : pw_W D A s.heap L u.2.2.2 H locs)
    (kk : ∀ (ls1 : Array Slot) (H1 : Heap) (locs1 : List Loc), lv_has ls1 N v.2.1 → pw_W D A s.heap L v.2.2.2 H1 locs1 → W p l e R s m args below meth c H1 locs1 cells slots Q (F0 m v.1 ls1 v.2.2.1)) : W p l e R s m args below meth c H locs cells slots Q (F0 m u.1 ls u.2.2.1) := by
  obtain ⟨i, hd, ⟨h1, h2⟩ | ⟨h1, h2⟩ | ⟨h1, h2⟩⟩ := hs
  · exact gx_pure_ok hx hb hd hl h1 (fun ls1 hl1 => kk ls1 H locs hl1 (by rw [h2]; exact hw))
  · exact gx_heap_ok hx hb hts hown hG hd hw h2 (fun H1 locs1 hw1 => kk ls H1 locs1 (by rw [h1]; exact hl) hw1)
  · exact gx_call_ok hg hx hb hml hl.1 hts hown hG hd hw hK hR hf h2 (fun H1 locs1 hw1 => kk ls H1 locs1 (by rw [h1]; exact hl) hw1)
theorem gx_to_ok (hg : ∀ w ∈ ws0, goodWord w = true) (hx : p.tables.exec = Jvm.exec) (hb : c.code = cc) (hml : c.maxLocals = N) (hts : ∀ w ∈ ws0, w.before args s = true) (hown : s.vm.findClass own = some m.cls) (hG : pw_G D cy s)
    {K : gx_M → List Value → (Nat → va_E) → Option Value → (Nat → va_E) → Prop} (hK : ∀ M av f r f', gx_code M ∈ ws0 → K M av f r f' → gx_Met l D cy ws0 L d M av f r f') (hR : d + 1 ≤ R.frames ∧ 64 * (d + 1) ≤ R.locals) (hf : cells ≤ R.cells ∧ slots ≤ R.slots) : ∀ (n : Nat) (u v : gx_S) (ls : Array Slot) (H : Heap) (locs : List Loc), gx_to (gx_one ws0 cy L own cc N K) n u v → lv_has ls N u.2.1 → pw_W D A s.heap L u.2.2.2 H locs →
    (∀ (ls1 : Array Slot) (H1 : Heap) (locs1 : List Loc), lv_has ls1 N v.2.1 → pw_W D A s.heap L v.2.2.2 H1 locs1 → W p l e R s m args below meth c H1 locs1 cells slots Q (F0 m v.1 ls1 v.2.2.1)) → W p l e R s m args below meth c H locs cells slots Q (F0 m u.1 ls u.2.2.1)
  | 0, u, v, ls, H, locs, h, hl, hw, kk => by
    have h : u = v := h
    subst h
    exact kk ls H locs hl hw
  | n + 1, u, v, ls, H, locs, h, hl, hw, kk => by
    obtain ⟨w, h1, h2⟩ := h
    exact gx_one_ok hg hx hb hml hts hown hG hK hR hf h1 hl hw (fun ls1 H1 locs1 hl1 hw1 => gx_to_ok hg hx hb hml hts hown hG hK hR hf n w v ls1 H1 locs1 h2 hl1 hw1 kk)
theorem gx_fin_ok (hx : p.tables.exec = Jvm.exec) (hb : c.code = cc) (hlocks : meth.locks = false) {sz : Nat} {r : Option Value} {f0 : Nat → va_E} {u : gx_S} {ret : Option FieldType} (hr : meth.sig.returnType = ret) (h : gx_fin cc ret u r) (hw : pw_W D (pw_A L f0 sz) s.heap L u.2.2.2 H locs) :
    W p l e R s m args below meth c H locs cells slots (MQ below (gx_Q D (pw_A L f0 sz) L r u.2.2.2) args s cells slots (pw_A L f0 sz)) (F0 m u.1 ls u.2.2.1) := by
  rcases h with ⟨hd, rfl, h1, rfl⟩ | ⟨x, ty, hd, rfl, hn, h1, rfl⟩ | ⟨x, hd, rfl, h1, rfl⟩ | ⟨x, rt, hd, rfl, ht, h1, rfl⟩
  · rw [h1]
    exact W.vret hx hb hr (fun t ht hW => ⟨⟨rfl, by rw [ht]; exact hw.1, hw.2.1⟩, hw.2.2.1.F ht⟩) hw.2.2.1.2.2 (gx_d hd rfl rfl)
  · rw [h1]
    exact W.zret hx hb hr hn (fun t ht hW => ⟨⟨rfl, by rw [ht]; exact hw.1, hw.2.1⟩, hw.2.2.1.F ht⟩) hw.2.2.1.2.2 (gx_d hd rfl rfl)
  · rw [h1]
    exact W.lret hx hb hr (fun t ht hW => ⟨⟨rfl, by rw [ht]; exact hw.1, hw.2.1⟩, hw.2.2.1.F ht⟩) hw.2.2.1.2.2 (gx_d hd rfl rfl)
  · rw [h1]
    exact W.aret hx hb hr ht (by cases x with
      | none => exact Or.inl rfl
      | some a => exact Or.inr ⟨a, rfl⟩) (fun t ht hW => ⟨⟨rfl, by rw [ht]; exact hw.1, hw.2.1⟩, hw.2.2.1.F ht⟩) hw.2.2.1.2.2 (gx_d hd rfl rfl)
end GY
/-- a run is a contract -/
theorem gx_met {l : Launch} {D : va_G} {cy : Nat → ClassId} {ws0 : List Cond} {L : List Nat} (hg : ∀ w ∈ ws0, goodWord w = true) (hpl : ∀ y cc n ret, Cond.code y cc n ret ∈ ws0 → plainName y.cls = true) : ∀ (d : Nat) (M : gx_M) (av : List Value) (f : Nat → va_E) (r : Option Value) (f' : Nat → va_E), gx_code M ∈ ws0 → gx_Ev ws0 cy L d M av f r f' → gx_Met l D cy ws0 L d M av f r f'
  | 0, _, _, _, _, _, _, h => h.elim
  | d + 1, M, av, f, r, f', hc, h => fun sz => by
    obtain ⟨hlen, n, u, hto, hfin, rfl⟩ := h
    refine Met.ofW (cc := M.2.1) (maxL := M.2.2.1) (ret := M.2.2.2) (hpl _ _ _ _ hc) rfl ?_
    intro p e s m args below meth c s₁ B hml hv
    obtain ⟨rfl, hsz, hG, hP, hD0⟩ := hv
    have hts := atoms_spec (ws := gx_code M :: ws0) B.pre
    have hpp := fun (w : Cond) (h : w ∈ ws0) => hts w (List.mem_cons_of_mem _ h)
    have hown : s.vm.findClass M.1.cls = some m.cls := findClass_of_methodNamed B.named
    have hw := pw_start (cy := cy) hsz hP hD0
    have hl := lv_entry av (n := M.2.2.1) hlen
    rw [lg_entry_eq]
    generalize (lg_sl av ++ List.replicate (M.2.2.1 - (lg_sl av).length) Slot.unset).toArray = ls at hl ⊢
    refine gx_to_ok (d := d) (K := gx_Ev ws0 cy L d) hg B.exec B.bytes hml hpp hown hG (fun M av f r f' h1 h2 => gx_met hg hpl d M av f r f' h1 h2) ⟨Nat.le_refl _, Nat.le_refl _⟩ ⟨Nat.le_refl _, Nat.le_refl _⟩ n (0, lv_args 0 av, [], f) u ls s.heap [] ?_ hl hw (fun ls1 H1 locs1 hl1 hw1 => gx_fin_ok B.exec B.bytes B.notSynchronized B.returns hfin hw1)
    exact hto
