/-! A METHOD'S WALK AS A PATH OF VALUES: what each instruction does to locals and stack (a place, the locals that are known, the stack). -/
abbrev gx_V : Type := Nat × List (Nat × Value) × List Value
def gx_t (pc : Nat) (off : Int) : Option Nat := if 0 ≤ (pc : Int) + off then some ((pc : Int) + off).toNat else none
theorem gx_t_ok {pc t : Nat} {off : Int} (h : gx_t pc off = some t) : (pc : Int) + off = (t : Int) := by
  unfold gx_t at h
  split at h
  · cases h
    omega
  · cases h
def gx_look : List (Nat × Value) → Nat → Option Value
  | [], _ => none
  | q :: l, i => if q.1 = i then some q.2 else gx_look l i
theorem gx_look_mem {i : Nat} {v : Value} : ∀ {lv : List (Nat × Value)}, gx_look lv i = some v → (i, v) ∈ lv
  | [], h => by cases h
  | q :: l, h => by
    unfold gx_look at h
    split at h
    · rename_i h0
      cases h
      rw [← h0]
      exact List.mem_cons_self
    · exact List.mem_cons_of_mem _ (gx_look_mem h)
theorem gx_look_ok {ls : Array Slot} {N i : Nat} {lv : List (Nat × Value)} {v : Value} (hl : lv_has ls N lv) (h : gx_look lv i = some v) : ls[i]? = some (.val v) := hl.2.2 (i, v) (gx_look_mem h)
theorem gx_look_at {i : Nat} {v : Value} {lv : List (Nat × Value)} (h : gx_look lv i = some v) : ∃ k : Nat, lv[k]? = some (i, v) := List.getElem?_of_mem (gx_look_mem h)
def gx_s1 (lv : List (Nat × Value)) (i : Nat) (v : Value) : List (Nat × Value) := (i, v) :: lv.filter (fun q => !(q.1 == i) && !(q.1 + 1 == i && q.2.category == 2))
def gx_s2 (lv : List (Nat × Value)) (i : Nat) (v : Value) : List (Nat × Value) := (i, v) :: lv.filter (fun q => !(q.1 == i) && (!(q.1 == i + 1) && !(q.1 + 1 == i && q.2.category == 2)))
def gx_ldI (pc d : Nat) (lv : List (Nat × Value)) (st : List Value) (i : Nat) : Option gx_V := match gx_look lv i with
  | some (.int x) => some (pc + d, lv, .int x :: st)
  | _ => none
def gx_ldL (pc d : Nat) (lv : List (Nat × Value)) (st : List Value) (i : Nat) : Option gx_V := match gx_look lv i with
  | some (.long x) => some (pc + d, lv, .long x :: st)
  | _ => none
def gx_ldA (pc d : Nat) (lv : List (Nat × Value)) (st : List Value) (i : Nat) : Option gx_V := match gx_look lv i with
  | some (.ref x) => some (pc + d, lv, .ref x :: st)
  | some .null => some (pc + d, lv, .null :: st)
  | _ => none
def gx_stI (pc d N : Nat) (lv : List (Nat × Value)) (st : List Value) (i : Nat) : Option gx_V := match st with
  | .int x :: r => if i < N then some (pc + d, gx_s1 lv i (.int x), r) else none
  | _ => none
def gx_stL (pc d N : Nat) (lv : List (Nat × Value)) (st : List Value) (i : Nat) : Option gx_V := match st with
  | .long x :: r => if i + 1 < N then some (pc + d, gx_s2 lv i (.long x), r) else none
  | _ => none
def gx_stA (pc d N : Nat) (lv : List (Nat × Value)) (st : List Value) (i : Nat) : Option gx_V := match st with
  | .ref x :: r => if i < N then some (pc + d, gx_s1 lv i (.ref x), r) else none
  | .null :: r => if i < N then some (pc + d, gx_s1 lv i .null, r) else none
  | _ => none
def gx_inc (pc N : Nat) (lv : List (Nat × Value)) (st : List Value) (i : Nat) (n : Int) : Option gx_V := match gx_look lv i with
  | some (.int x) => if i < N then some (pc + 3, gx_s1 lv i (.int (x + Int32.ofInt n)), st) else none
  | _ => none
def gx_i1 (pc : Nat) (lv : List (Nat × Value)) (st : List Value) (g : Int32 → Value) : Option gx_V := match st with
  | .int x :: r => some (pc + 1, lv, g x :: r)
  | _ => none
def gx_l1 (pc : Nat) (lv : List (Nat × Value)) (st : List Value) (g : Int64 → Value) : Option gx_V := match st with
  | .long x :: r => some (pc + 1, lv, g x :: r)
  | _ => none
def gx_i2 (pc : Nat) (lv : List (Nat × Value)) (st : List Value) (g : Int32 → Int32 → Int32) : Option gx_V := match st with
  | .int y :: .int x :: r => some (pc + 1, lv, .int (g x y) :: r)
  | _ => none
def gx_i2z (pc : Nat) (lv : List (Nat × Value)) (st : List Value) (g : Int32 → Int32 → Int32) : Option gx_V := match st with
  | .int y :: .int x :: r => if y = 0 then none else some (pc + 1, lv, .int (g x y) :: r)
  | _ => none
def gx_l2 (pc : Nat) (lv : List (Nat × Value)) (st : List Value) (g : Int64 → Int64 → Value) : Option gx_V := match st with
  | .long y :: .long x :: r => some (pc + 1, lv, g x y :: r)
  | _ => none
def gx_l2z (pc : Nat) (lv : List (Nat × Value)) (st : List Value) (g : Int64 → Int64 → Value) : Option gx_V := match st with
  | .long y :: .long x :: r => if y = 0 then none else some (pc + 1, lv, g x y :: r)
  | _ => none
def gx_ls (pc : Nat) (lv : List (Nat × Value)) (st : List Value) (g : Int64 → Int32 → Int64) : Option gx_V := match st with
  | .int y :: .long x :: r => some (pc + 1, lv, .long (g x y) :: r)
  | _ => none
def gx_b1 (pc : Nat) (lv : List (Nat × Value)) (st : List Value) (off : Int) (g : Int32 → Bool) : Option gx_V := match st, gx_t pc off with
  | .int x :: r, some t => some (if g x then t else pc + 3, lv, r)
  | _, _ => none
def gx_b2 (pc : Nat) (lv : List (Nat × Value)) (st : List Value) (off : Int) (g : Int32 → Int32 → Bool) : Option gx_V := match st, gx_t pc off with
  | .int y :: .int x :: r, some t => some (if g x y then t else pc + 3, lv, r)
  | _, _ => none
def gx_dup (pc : Nat) (lv : List (Nat × Value)) (st : List Value) : Option gx_V := match st with
  | a :: r => if a.category = 1 then some (pc + 1, lv, a :: a :: r) else none
  | _ => none
def gx_pop (pc : Nat) (lv : List (Nat × Value)) (st : List Value) : Option gx_V := match st with
  | a :: r => if a.category = 1 then some (pc + 1, lv, r) else none
  | _ => none
def gx_dx1 (pc : Nat) (lv : List (Nat × Value)) (st : List Value) : Option gx_V := match st with
  | a :: b :: r => if a.category = 1 ∧ b.category = 1 then some (pc + 1, lv, a :: b :: a :: r) else none
  | _ => none
def gx_dx2 (pc : Nat) (lv : List (Nat × Value)) (st : List Value) : Option gx_V := match st with
  | a :: b :: d :: r => if a.category = 1 ∧ b.category = 1 ∧ d.category = 1 then some (pc + 1, lv, a :: b :: d :: a :: r) else none
  | _ => none
def gx_dup2 (pc : Nat) (lv : List (Nat × Value)) (st : List Value) : Option gx_V := match st with
  | a :: r => if a.category = 2 then some (pc + 1, lv, a :: a :: r) else match r with
    | b :: r => if a.category = 1 ∧ b.category = 1 then some (pc + 1, lv, a :: b :: a :: b :: r) else none
    | _ => none
  | _ => none
def gx_null (pc : Nat) (lv : List (Nat × Value)) (st : List Value) (off : Int) (z : Bool) : Option gx_V := match st, gx_t pc off with
  | .ref _ :: r, some t => some (if z then pc + 3 else t, lv, r)
  | .null :: r, some t => some (if z then t else pc + 3, lv, r)
  | _, _ => none
def gx_tab (pc : Nat) (lv : List (Nat × Value)) (st : List Value) (dflt lo hi : Int) (offs : Array Int) : Option gx_V := match st with
  | .int x :: r => if x.toInt < lo ∨ hi < x.toInt then (match gx_t pc dflt with
      | some t => some (t, lv, r)
      | none => none) else (match offs[(x.toInt - lo).toNat]? with
      | some off => (match gx_t pc off with
        | some t => some (t, lv, r)
        | none => none)
      | none => none)
  | _ => none
def gx_lks (pc : Nat) (lv : List (Nat × Value)) (st : List Value) (dflt : Int) (ps : Array (Int × Int)) : Option gx_V := match st with
  | .int x :: r => if (ps.toList.zip (ps.toList.drop 1)).all (fun (a, next) => a.1 < next.1) = true then (match gx_t pc (Op.lookupswitch.offset ps.toList dflt x.toInt) with
      | some t => some (t, lv, r)
      | none => none) else none
  | _ => none
theorem gx_ldI_inv {pc d i : Nat} {lv : List (Nat × Value)} {st : List Value} {q : gx_V} (h : gx_ldI pc d lv st i = some q) : ∃ x, gx_look lv i = some (.int x) ∧ (pc + d, lv, .int x :: st) = q := by
  unfold gx_ldI at h
  split at h
  · rename_i x h1
    exact ⟨x, h1, Option.some.inj h⟩
  · cases h
theorem gx_ldL_inv {pc d i : Nat} {lv : List (Nat × Value)} {st : List Value} {q : gx_V} (h : gx_ldL pc d lv st i = some q) : ∃ x, gx_look lv i = some (.long x) ∧ (pc + d, lv, .long x :: st) = q := by
  unfold gx_ldL at h
  split at h
  · rename_i x h1
    exact ⟨x, h1, Option.some.inj h⟩
  · cases h
theorem gx_ldA_inv {pc d i : Nat} {lv : List (Nat × Value)} {st : List Value} {q : gx_V} (h : gx_ldA pc d lv st i = some q) : (∃ x, gx_look lv i = some (.ref x) ∧ (pc + d, lv, .ref x :: st) = q) ∨ (gx_look lv i = some .null ∧ (pc + d, lv, .null :: st) = q) := by
  unfold gx_ldA at h
  split at h
  · rename_i x h1
    exact Or.inl ⟨x, h1, Option.some.inj h⟩
  · rename_i h1
    exact Or.inr ⟨h1, Option.some.inj h⟩
  · cases h
theorem gx_stI_inv {pc d N i : Nat} {lv : List (Nat × Value)} {st : List Value} {q : gx_V} (h : gx_stI pc d N lv st i = some q) : ∃ x r, st = .int x :: r ∧ i < N ∧ (pc + d, gx_s1 lv i (.int x), r) = q := by
  unfold gx_stI at h
  split at h
  · rename_i x r
    split at h
    · rename_i h1
      exact ⟨x, r, rfl, h1, Option.some.inj h⟩
    · cases h
  · cases h
theorem gx_stL_inv {pc d N i : Nat} {lv : List (Nat × Value)} {st : List Value} {q : gx_V} (h : gx_stL pc d N lv st i = some q) : ∃ x r, st = .long x :: r ∧ i + 1 < N ∧ (pc + d, gx_s2 lv i (.long x), r) = q := by
  unfold gx_stL at h
  split at h
  · rename_i x r
    split at h
    · rename_i h1
      exact ⟨x, r, rfl, h1, Option.some.inj h⟩
    · cases h
  · cases h
theorem gx_stA_inv {pc d N i : Nat} {lv : List (Nat × Value)} {st : List Value} {q : gx_V} (h : gx_stA pc d N lv st i = some q) : (∃ x r, st = .ref x :: r ∧ i < N ∧ (pc + d, gx_s1 lv i (.ref x), r) = q) ∨ (∃ r, st = .null :: r ∧ i < N ∧ (pc + d, gx_s1 lv i .null, r) = q) := by
  unfold gx_stA at h
  split at h
  · rename_i x r
    split at h
    · rename_i h1
      exact Or.inl ⟨x, r, rfl, h1, Option.some.inj h⟩
    · cases h
  · rename_i r
    split at h
    · rename_i h1
      exact Or.inr ⟨r, rfl, h1, Option.some.inj h⟩
    · cases h
  · cases h
theorem gx_inc_inv {pc N i : Nat} {n : Int} {lv : List (Nat × Value)} {st : List Value} {q : gx_V} (h : gx_inc pc N lv st i n = some q) : ∃ x, gx_look lv i = some (.int x) ∧ i < N ∧ (pc + 3, gx_s1 lv i (.int (x + Int32.ofInt n)), st) = q := by
  unfold gx_inc at h
  split at h
  · rename_i x h1
    split at h
    · rename_i h2
      exact ⟨x, h1, h2, Option.some.inj h⟩
    · cases h
  · cases h
theorem gx_i1_inv {pc : Nat} {lv : List (Nat × Value)} {st : List Value} {g : Int32 → Value} {q : gx_V} (h : gx_i1 pc lv st g = some q) : ∃ x r, st = .int x :: r ∧ (pc + 1, lv, g x :: r) = q := by
  unfold gx_i1 at h
  split at h
  · exact ⟨_, _, rfl, Option.some.inj h⟩
  · cases h
theorem gx_l1_inv {pc : Nat} {lv : List (Nat × Value)} {st : List Value} {g : Int64 → Value} {q : gx_V} (h : gx_l1 pc lv st g = some q) : ∃ x r, st = .long x :: r ∧ (pc + 1, lv, g x :: r) = q := by
  unfold gx_l1 at h
  split at h
  · exact ⟨_, _, rfl, Option.some.inj h⟩
  · cases h
theorem gx_i2_inv {pc : Nat} {lv : List (Nat × Value)} {st : List Value} {g : Int32 → Int32 → Int32} {q : gx_V} (h : gx_i2 pc lv st g = some q) : ∃ x y r, st = .int y :: .int x :: r ∧ (pc + 1, lv, .int (g x y) :: r) = q := by
  unfold gx_i2 at h
  split at h
  · exact ⟨_, _, _, rfl, Option.some.inj h⟩
  · cases h
theorem gx_i2z_inv {pc : Nat} {lv : List (Nat × Value)} {st : List Value} {g : Int32 → Int32 → Int32} {q : gx_V} (h : gx_i2z pc lv st g = some q) : ∃ x y r, st = .int y :: .int x :: r ∧ ¬ y = 0 ∧ (pc + 1, lv, .int (g x y) :: r) = q := by
  unfold gx_i2z at h
  split at h
  · split at h
    · cases h
    · rename_i h1
      exact ⟨_, _, _, rfl, h1, Option.some.inj h⟩
  · cases h
theorem gx_l2_inv {pc : Nat} {lv : List (Nat × Value)} {st : List Value} {g : Int64 → Int64 → Value} {q : gx_V} (h : gx_l2 pc lv st g = some q) : ∃ x y r, st = .long y :: .long x :: r ∧ (pc + 1, lv, g x y :: r) = q := by
  unfold gx_l2 at h
  split at h
  · exact ⟨_, _, _, rfl, Option.some.inj h⟩
  · cases h
theorem gx_l2z_inv {pc : Nat} {lv : List (Nat × Value)} {st : List Value} {g : Int64 → Int64 → Value} {q : gx_V} (h : gx_l2z pc lv st g = some q) : ∃ x y r, st = .long y :: .long x :: r ∧ ¬ y = 0 ∧ (pc + 1, lv, g x y :: r) = q := by
  unfold gx_l2z at h
  split at h
  · split at h
    · cases h
    · rename_i h1
      exact ⟨_, _, _, rfl, h1, Option.some.inj h⟩
  · cases h
theorem gx_ls_inv {pc : Nat} {lv : List (Nat × Value)} {st : List Value} {g : Int64 → Int32 → Int64} {q : gx_V} (h : gx_ls pc lv st g = some q) : ∃ x y r, st = .int y :: .long x :: r ∧ (pc + 1, lv, .long (g x y) :: r) = q := by
  unfold gx_ls at h
  split at h
  · exact ⟨_, _, _, rfl, Option.some.inj h⟩
  · cases h
theorem gx_b1_inv {pc : Nat} {lv : List (Nat × Value)} {st : List Value} {off : Int} {g : Int32 → Bool} {q : gx_V} (h : gx_b1 pc lv st off g = some q) : ∃ (x : Int32) (r : List Value) (t : Nat), st = .int x :: r ∧ (pc : Int) + off = (t : Int) ∧ ((if g x = true then t else pc + 3), lv, r) = q := by
  unfold gx_b1 at h
  split at h
  · rename_i x r t ht
    exact ⟨x, r, t, rfl, gx_t_ok ht, Option.some.inj h⟩
  · cases h
theorem gx_b2_inv {pc : Nat} {lv : List (Nat × Value)} {st : List Value} {off : Int} {g : Int32 → Int32 → Bool} {q : gx_V} (h : gx_b2 pc lv st off g = some q) : ∃ (x y : Int32) (r : List Value) (t : Nat), st = .int y :: .int x :: r ∧ (pc : Int) + off = (t : Int) ∧ ((if g x y = true then t else pc + 3), lv, r) = q := by
  unfold gx_b2 at h
  split at h
  · rename_i y x r t ht
    exact ⟨x, y, r, t, rfl, gx_t_ok ht, Option.some.inj h⟩
  · cases h
theorem gx_null_inv {pc : Nat} {lv : List (Nat × Value)} {st : List Value} {off : Int} {z : Bool} {q : gx_V} (h : gx_null pc lv st off z = some q) : ∃ (r : List Value) (t : Nat), (pc : Int) + off = (t : Int) ∧ ((∃ a, st = .ref a :: r ∧ ((if z = true then pc + 3 else t), lv, r) = q) ∨ (st = .null :: r ∧ ((if z = true then t else pc + 3), lv, r) = q)) := by
  unfold gx_null at h
  split at h
  · rename_i a r t ht
    exact ⟨r, t, gx_t_ok ht, Or.inl ⟨a, rfl, Option.some.inj h⟩⟩
  · rename_i r t ht
    exact ⟨r, t, gx_t_ok ht, Or.inr ⟨rfl, Option.some.inj h⟩⟩
  · cases h
def gx_sw : Instr → Bool
  | .tableswitch _ _ _ _ => true
  | .lookupswitch _ _ => true
  | _ => false
def gx_len : Instr → Nat
  | .iaload => 1
  | .iastore => 1
  | .baload => 1
  | .bastore => 1
  | .laload => 1
  | .lastore => 1
  | .aaload => 1
  | .aastore => 1
  | .arraylength => 1
  | .aconst_null => 1
  | .iadd => 1
  | .isub => 1
  | .imul => 1
  | .iand => 1
  | .ior => 1
  | .ixor => 1
  | .idiv => 1
  | .irem => 1
  | .ineg => 1
  | .ishl => 1
  | .ishr => 1
  | .iushr => 1
  | .ladd => 1
  | .lsub => 1
  | .lmul => 1
  | .land => 1
  | .lor => 1
  | .lxor => 1
  | .ldiv => 1
  | .lrem => 1
  | .lneg => 1
  | .lshl => 1
  | .lshr => 1
  | .lushr => 1
  | .i2l => 1
  | .l2i => 1
  | .i2b => 1
  | .i2c => 1
  | .i2s => 1
  | .lcmp => 1
  | .dup => 1
  | .dup_x1 => 1
  | .dup_x2 => 1
  | .dup2 => 1
  | .pop => 1
  | .ireturn => 1
  | .lreturn => 1
  | .areturn => 1
  | .return_ => 1
  | .athrow => 1
  | .iconst _ => 1
  | .lconst _ => 1
  | .iload_n _ => 1
  | .lload_n _ => 1
  | .aload_n _ => 1
  | .istore_n _ => 1
  | .lstore_n _ => 1
  | .astore_n _ => 1
  | .bipush _ => 2
  | .iload _ => 2
  | .lload _ => 2
  | .aload _ => 2
  | .istore _ => 2
  | .lstore _ => 2
  | .astore _ => 2
  | .ldc _ => 2
  | .newarray _ => 2
  | .getstatic _ => 3
  | .checkcast _ => 3
  | .sipush _ => 3
  | .ldc_w _ => 3
  | .ldc2_w _ => 3
  | .getfield _ => 3
  | .putfield _ => 3
  | .invokevirtual _ => 3
  | .invokestatic _ => 3
  | .invokespecial _ => 3
  | .new _ => 3
  | .anewarray _ => 3
  | .goto _ => 3
  | .ifnull _ => 3
  | .ifnonnull _ => 3
  | .iinc _ _ => 3
  | .ifCond _ _ => 3
  | .if_icmp _ _ => 3
  | .if_acmp _ _ => 3
  | .multianewarray _ _ => 4
  | _ => 0
/-- the instruction that stands at a place -/
def gx_dec (cc : ByteArray) (pc : Nat) (i : Instr) : Prop := ∃ len, decode cc pc = .ok (i, len) ∧ (gx_sw i = true ∨ gx_len i = len)
theorem gx_d {cc : ByteArray} {pc k : Nat} {i : Instr} (h : gx_dec cc pc i) (hs : gx_sw i = false) (hk : gx_len i = k) : decode cc pc = .ok (i, k) := by
  obtain ⟨len, h1, h2 | h2⟩ := h
  · rw [hs] at h2; cases h2
  · rw [h1, ← hk, h2]
/-- what an instruction that reads no cell does -/
def gx_pure (pc N : Nat) (lv : List (Nat × Value)) (st : List Value) (i : Instr) : Option gx_V := match i with
  | .iconst n => some (pc + 1, lv, .int (Int32.ofInt n) :: st)
  | .bipush n => some (pc + 2, lv, .int (Int8.ofInt n).toInt32 :: st)
  | .sipush n => some (pc + 3, lv, .int (Int16.ofInt n).toInt32 :: st)
  | .lconst n => some (pc + 1, lv, .long (Int64.ofNat (n : Nat)) :: st)
  | .aconst_null => some (pc + 1, lv, .null :: st)
  | .iload i => gx_ldI pc 2 lv st i
  | .iload_n i => gx_ldI pc 1 lv st i
  | .istore i => gx_stI pc 2 N lv st i
  | .istore_n i => gx_stI pc 1 N lv st i
  | .lload i => gx_ldL pc 2 lv st i
  | .lload_n i => gx_ldL pc 1 lv st i
  | .lstore i => gx_stL pc 2 N lv st i
  | .lstore_n i => gx_stL pc 1 N lv st i
  | .aload i => gx_ldA pc 2 lv st i
  | .aload_n i => gx_ldA pc 1 lv st i
  | .astore i => gx_stA pc 2 N lv st i
  | .astore_n i => gx_stA pc 1 N lv st i
  | .iinc i n => gx_inc pc N lv st i n
  | .iadd => gx_i2 pc lv st (fun x y => x + y)
  | .isub => gx_i2 pc lv st (fun x y => x - y)
  | .imul => gx_i2 pc lv st (fun x y => x * y)
  | .iand => gx_i2 pc lv st (fun x y => x &&& y)
  | .ior => gx_i2 pc lv st (fun x y => x ||| y)
  | .ixor => gx_i2 pc lv st (fun x y => x ^^^ y)
  | .ishl => gx_i2 pc lv st (fun x y => x <<< (y &&& 31))
  | .ishr => gx_i2 pc lv st (fun x y => x >>> (y &&& 31))
  | .iushr => gx_i2 pc lv st (fun x y => (x.toUInt32 >>> (y.toUInt32 &&& Int32.toUInt32 31)).toInt32)
  | .idiv => gx_i2z pc lv st (fun x y => x / y)
  | .irem => gx_i2z pc lv st (fun x y => x - x / y * y)
  | .ineg => gx_i1 pc lv st (fun x => .int (-x))
  | .i2l => gx_i1 pc lv st (fun x => .long x.toInt64)
  | .i2b => gx_i1 pc lv st (fun x => .int x.toInt8.toInt32)
  | .i2c => gx_i1 pc lv st (fun x => .int (x.toUInt32 % 65536).toInt32)
  | .l2i => gx_l1 pc lv st (fun x => .int x.toInt32)
  | .ladd => gx_l2 pc lv st (fun x y => .long (x + y))
  | .lsub => gx_l2 pc lv st (fun x y => .long (x - y))
  | .lmul => gx_l2 pc lv st (fun x y => .long (x * y))
  | .land => gx_l2 pc lv st (fun x y => .long (x &&& y))
  | .lor => gx_l2 pc lv st (fun x y => .long (x ||| y))
  | .lxor => gx_l2 pc lv st (fun x y => .long (x ^^^ y))
  | .lcmp => gx_l2 pc lv st (fun x y => .int (lg_cmp x y))
  | .ldiv => gx_l2z pc lv st (fun x y => .long (x / y))
  | .lrem => gx_l2z pc lv st (fun x y => .long (x - x / y * y))
  | .lshl => gx_ls pc lv st (fun x y => x <<< (y.toInt64 &&& 63))
  | .lshr => gx_ls pc lv st (fun x y => x >>> (y.toInt64 &&& 63))
  | .lushr => gx_ls pc lv st (fun x y => (x.toUInt64 >>> (y.toInt64.toUInt64 &&& Int64.toUInt64 63)).toInt64)
  | .dup => gx_dup pc lv st
  | .pop => gx_pop pc lv st
  | .dup_x1 => gx_dx1 pc lv st
  | .dup_x2 => gx_dx2 pc lv st
  | .dup2 => gx_dup2 pc lv st
  | .ifCond .eq off => gx_b1 pc lv st off (fun x => decide (x = 0))
  | .if_icmp .eq off => gx_b2 pc lv st off (fun x y => decide (x = y))
  | .ifCond .ne off => gx_b1 pc lv st off (fun x => decide (¬ x = 0))
  | .if_icmp .ne off => gx_b2 pc lv st off (fun x y => decide (¬ x = y))
  | .ifCond .lt off => gx_b1 pc lv st off (fun x => decide (x < 0))
  | .if_icmp .lt off => gx_b2 pc lv st off (fun x y => decide (x < y))
  | .ifCond .ge off => gx_b1 pc lv st off (fun x => decide (0 ≤ x))
  | .if_icmp .ge off => gx_b2 pc lv st off (fun x y => decide (y ≤ x))
  | .ifCond .gt off => gx_b1 pc lv st off (fun x => decide (0 < x))
  | .if_icmp .gt off => gx_b2 pc lv st off (fun x y => decide (y < x))
  | .ifCond .le off => gx_b1 pc lv st off (fun x => decide (x ≤ 0))
  | .if_icmp .le off => gx_b2 pc lv st off (fun x y => decide (x ≤ y))
  | .goto off => (gx_t pc off).map (fun t => (t, lv, st))
  | .ifnull off => gx_null pc lv st off true
  | .ifnonnull off => gx_null pc lv st off false
  | .tableswitch dflt lo hi offs => gx_tab pc lv st dflt lo hi offs
  | .lookupswitch dflt ps => gx_lks pc lv st dflt ps
  | _ => none
section GX
variable {p : Program} {l : Launch} {e : Env} {R : Room} {s : State} {m : MethodId} {args : Array Value} {below : List Frame} {meth : Method} {c : Code} {H : Heap} {locs : List Loc} {cells slots : Nat} {Q : State → Prop}
variable {cc : ByteArray} {pc pc' N : Nat} {ls : Array Slot} {lv lv' : List (Nat × Value)} {st st' : List Value} {i : Instr}
set_option maxHeartbeats 4000000 in
/-- and the machine does so -/
theorem gx_pure_ok (hx : p.tables.exec = Jvm.exec) (hb : c.code = cc) (hd : gx_dec cc pc i) (hl : lv_has ls N lv) (hs : gx_pure pc N lv st i = some (pc', lv', st'))
    (kk : ∀ ls' : Array Slot, lv_has ls' N lv' → W p l e R s m args below meth c H locs cells slots Q (F0 m pc' ls' st')) : W p l e R s m args below meth c H locs cells slots Q (F0 m pc ls st) := by
  unfold gx_pure at hs
  split at hs
  · cases hs
    exact lv_iconst hx hb (gx_d hd rfl rfl) rfl (kk ls hl)
  · cases hs
    exact lv_bipush hx hb (gx_d hd rfl rfl) rfl (kk ls hl)
  · cases hs
    exact lv_sipush hx hb (gx_d hd rfl rfl) rfl (kk ls hl)
  · cases hs
    exact lv_lconst hx hb (gx_d hd rfl rfl) rfl (kk ls hl)
  · cases hs
    exact lv_null hx hb (gx_d hd rfl rfl) (kk ls hl)
  · obtain ⟨x, h1, h2⟩ := gx_ldI_inv hs
    cases h2
    exact lv_iload hx hb (gx_d hd rfl rfl) (gx_look_ok hl h1) (kk ls hl)
  · obtain ⟨x, h1, h2⟩ := gx_ldI_inv hs
    cases h2
    exact lv_iload_n hx hb (gx_d hd rfl rfl) rfl (gx_look_ok hl h1) (kk ls hl)
  · obtain ⟨x, r, rfl, h1, h2⟩ := gx_stI_inv hs
    cases h2
    exact lv_istore hx hb (gx_d hd rfl rfl) hl h1 rfl kk
  · obtain ⟨x, r, rfl, h1, h2⟩ := gx_stI_inv hs
    cases h2
    exact lv_istore_n hx hb (gx_d hd rfl rfl) rfl hl h1 rfl kk
  · obtain ⟨x, h1, h2⟩ := gx_ldL_inv hs
    cases h2
    exact lv_lload hx hb (gx_d hd rfl rfl) (gx_look_ok hl h1) (kk ls hl)
  · obtain ⟨x, h1, h2⟩ := gx_ldL_inv hs
    cases h2
    exact lv_lload_n hx hb (gx_d hd rfl rfl) rfl (gx_look_ok hl h1) (kk ls hl)
  · obtain ⟨x, r, rfl, h1, h2⟩ := gx_stL_inv hs
    cases h2
    exact lv_lstore hx hb (gx_d hd rfl rfl) hl h1 rfl kk
  · obtain ⟨x, r, rfl, h1, h2⟩ := gx_stL_inv hs
    cases h2
    exact lv_lstore_n hx hb (gx_d hd rfl rfl) rfl hl h1 rfl kk
  · rcases gx_ldA_inv hs with ⟨x, h1, h2⟩ | ⟨h1, h2⟩
    · cases h2
      exact lv_aload hx hb (gx_d hd rfl rfl) (gx_look_ok hl h1) (kk ls hl)
    · cases h2
      exact lv_aloadN hx hb (gx_d hd rfl rfl) (gx_look_ok hl h1) (kk ls hl)
  · rcases gx_ldA_inv hs with ⟨x, h1, h2⟩ | ⟨h1, h2⟩
    · cases h2
      exact lv_aload_n hx hb (gx_d hd rfl rfl) rfl (gx_look_ok hl h1) (kk ls hl)
    · cases h2
      exact lv_aload_nN hx hb (gx_d hd rfl rfl) rfl (gx_look_ok hl h1) (kk ls hl)
  · rcases gx_stA_inv hs with ⟨x, r, rfl, h1, h2⟩ | ⟨r, rfl, h1, h2⟩
    · cases h2
      exact lv_astore hx hb (gx_d hd rfl rfl) hl h1 rfl kk
    · cases h2
      exact lv_astoreN hx hb (gx_d hd rfl rfl) hl h1 rfl kk
  · rcases gx_stA_inv hs with ⟨x, r, rfl, h1, h2⟩ | ⟨r, rfl, h1, h2⟩
    · cases h2
      exact lv_astore_n hx hb (gx_d hd rfl rfl) rfl hl h1 rfl kk
    · cases h2
      exact lv_astore_nN hx hb (gx_d hd rfl rfl) rfl hl h1 rfl kk
  · obtain ⟨x, h1, h2, h3⟩ := gx_inc_inv hs
    cases h3
    obtain ⟨j, h4⟩ := gx_look_at h1
    exact lv_iinc hx hb (gx_d hd rfl rfl) hl h4 rfl h2 rfl kk
  · obtain ⟨x, y, r, rfl, h2⟩ := gx_i2_inv hs
    cases h2
    exact lv_iadd hx hb (gx_d hd rfl rfl) (kk ls hl)
  · obtain ⟨x, y, r, rfl, h2⟩ := gx_i2_inv hs
    cases h2
    exact lv_isub hx hb (gx_d hd rfl rfl) (kk ls hl)
  · obtain ⟨x, y, r, rfl, h2⟩ := gx_i2_inv hs
    cases h2
    exact lv_imul hx hb (gx_d hd rfl rfl) (kk ls hl)
  · obtain ⟨x, y, r, rfl, h2⟩ := gx_i2_inv hs
    cases h2
    exact lv_iand hx hb (gx_d hd rfl rfl) (kk ls hl)
  · obtain ⟨x, y, r, rfl, h2⟩ := gx_i2_inv hs
    cases h2
    exact lv_ior hx hb (gx_d hd rfl rfl) (kk ls hl)
  · obtain ⟨x, y, r, rfl, h2⟩ := gx_i2_inv hs
    cases h2
    exact lv_ixor hx hb (gx_d hd rfl rfl) (kk ls hl)
  · obtain ⟨x, y, r, rfl, h2⟩ := gx_i2_inv hs
    cases h2
    exact lv_ishl hx hb (gx_d hd rfl rfl) (kk ls hl)
  · obtain ⟨x, y, r, rfl, h2⟩ := gx_i2_inv hs
    cases h2
    exact lv_ishr hx hb (gx_d hd rfl rfl) (kk ls hl)
  · obtain ⟨x, y, r, rfl, h2⟩ := gx_i2_inv hs
    cases h2
    exact lv_iushr hx hb (gx_d hd rfl rfl) rfl (kk ls hl)
  · obtain ⟨x, y, r, rfl, h1, h2⟩ := gx_i2z_inv hs
    cases h2
    exact lv_idiv hx hb (gx_d hd rfl rfl) h1 (kk ls hl)
  · obtain ⟨x, y, r, rfl, h1, h2⟩ := gx_i2z_inv hs
    cases h2
    exact lv_irem hx hb (gx_d hd rfl rfl) h1 (kk ls hl)
  · obtain ⟨x, r, rfl, h2⟩ := gx_i1_inv hs
    cases h2
    exact lv_ineg hx hb (gx_d hd rfl rfl) (kk ls hl)
  · obtain ⟨x, r, rfl, h2⟩ := gx_i1_inv hs
    cases h2
    exact lv_i2l hx hb (gx_d hd rfl rfl) rfl (kk ls hl)
  · obtain ⟨x, r, rfl, h2⟩ := gx_i1_inv hs
    cases h2
    exact lv_i2b hx hb (gx_d hd rfl rfl) rfl (kk ls hl)
  · obtain ⟨x, r, rfl, h2⟩ := gx_i1_inv hs
    cases h2
    exact lv_i2c hx hb (gx_d hd rfl rfl) rfl (kk ls hl)
  · obtain ⟨x, r, rfl, h2⟩ := gx_l1_inv hs
    cases h2
    exact lv_l2i hx hb (gx_d hd rfl rfl) rfl (kk ls hl)
  · obtain ⟨x, y, r, rfl, h2⟩ := gx_l2_inv hs
    cases h2
    exact lv_ladd hx hb (gx_d hd rfl rfl) (kk ls hl)
  · obtain ⟨x, y, r, rfl, h2⟩ := gx_l2_inv hs
    cases h2
    exact lv_lsub hx hb (gx_d hd rfl rfl) (kk ls hl)
  · obtain ⟨x, y, r, rfl, h2⟩ := gx_l2_inv hs
    cases h2
    exact lv_lmul hx hb (gx_d hd rfl rfl) (kk ls hl)
  · obtain ⟨x, y, r, rfl, h2⟩ := gx_l2_inv hs
    cases h2
    exact lv_land hx hb (gx_d hd rfl rfl) (kk ls hl)
  · obtain ⟨x, y, r, rfl, h2⟩ := gx_l2_inv hs
    cases h2
    exact lv_lor hx hb (gx_d hd rfl rfl) (kk ls hl)
  · obtain ⟨x, y, r, rfl, h2⟩ := gx_l2_inv hs
    cases h2
    exact lv_lxor hx hb (gx_d hd rfl rfl) (kk ls hl)
  · obtain ⟨x, y, r, rfl, h2⟩ := gx_l2_inv hs
    cases h2
    exact W.lcmp hx hb (gx_d hd rfl rfl) (kk ls hl)
  · obtain ⟨x, y, r, rfl, h1, h2⟩ := gx_l2z_inv hs
    cases h2
    exact lv_ldiv hx hb (gx_d hd rfl rfl) h1 (kk ls hl)
  · obtain ⟨x, y, r, rfl, h1, h2⟩ := gx_l2z_inv hs
    cases h2
    exact lv_lrem hx hb (gx_d hd rfl rfl) h1 (kk ls hl)
  · obtain ⟨x, y, r, rfl, h2⟩ := gx_ls_inv hs
    cases h2
    exact lv_lshl hx hb (gx_d hd rfl rfl) rfl (kk ls hl)
  · obtain ⟨x, y, r, rfl, h2⟩ := gx_ls_inv hs
    cases h2
    exact lv_lshr hx hb (gx_d hd rfl rfl) rfl (kk ls hl)
  · obtain ⟨x, y, r, rfl, h2⟩ := gx_ls_inv hs
    cases h2
    exact lv_lushr hx hb (gx_d hd rfl rfl) rfl (kk ls hl)
  · unfold gx_dup at hs
    split at hs
    · split at hs
      · rename_i h1
        cases hs
        exact lv_dup hx hb (gx_d hd rfl rfl) h1 (kk ls hl)
      · cases hs
    · cases hs
  · unfold gx_pop at hs
    split at hs
    · split at hs
      · rename_i h1
        cases hs
        exact lv_pop hx hb (gx_d hd rfl rfl) h1 (kk ls hl)
      · cases hs
    · cases hs
  · unfold gx_dx1 at hs
    split at hs
    · split at hs
      · rename_i h1
        cases hs
        exact lv_dup_x1 hx hb (gx_d hd rfl rfl) h1.1 h1.2 (kk ls hl)
      · cases hs
    · cases hs
  · unfold gx_dx2 at hs
    split at hs
    · split at hs
      · rename_i h1
        cases hs
        exact lv_dup_x2 hx hb (gx_d hd rfl rfl) h1.1 h1.2.1 h1.2.2 (kk ls hl)
      · cases hs
    · cases hs
  · unfold gx_dup2 at hs
    split at hs
    · split at hs
      · rename_i h1
        cases hs
        exact lv_dup2_2 hx hb (gx_d hd rfl rfl) h1 (kk ls hl)
      · split at hs
        · split at hs
          · rename_i h1
            cases hs
            exact lv_dup2_11 hx hb (gx_d hd rfl rfl) h1.1 h1.2 (kk ls hl)
          · cases hs
        · cases hs
    · cases hs
  · obtain ⟨x, r, t, rfl, ht, h2⟩ := gx_b1_inv hs
    cases h2
    exact lv_if_eq hx hb (gx_d hd rfl rfl) ht (fun h => by have h9 := kk ls hl; simpa only [h, decide_true, decide_false, not_true_eq_false, not_false_eq_true, if_true, if_false, Bool.false_eq_true] using h9) (fun h => by have h9 := kk ls hl; simpa only [h, decide_true, decide_false, not_true_eq_false, not_false_eq_true, if_true, if_false, Bool.false_eq_true] using h9)
  · obtain ⟨x, y, r, t, rfl, ht, h2⟩ := gx_b2_inv hs
    cases h2
    exact lv_icmp_eq hx hb (gx_d hd rfl rfl) ht (fun h => by have h9 := kk ls hl; simpa only [h, decide_true, decide_false, not_true_eq_false, not_false_eq_true, if_true, if_false, Bool.false_eq_true] using h9) (fun h => by have h9 := kk ls hl; simpa only [h, decide_true, decide_false, not_true_eq_false, not_false_eq_true, if_true, if_false, Bool.false_eq_true] using h9)
  · obtain ⟨x, r, t, rfl, ht, h2⟩ := gx_b1_inv hs
    cases h2
    exact lv_if_ne hx hb (gx_d hd rfl rfl) ht (fun h => by have h9 := kk ls hl; simpa only [h, decide_true, decide_false, not_true_eq_false, not_false_eq_true, if_true, if_false, Bool.false_eq_true] using h9) (fun h => by have h9 := kk ls hl; simpa only [h, decide_true, decide_false, not_true_eq_false, not_false_eq_true, if_true, if_false, Bool.false_eq_true] using h9)
  · obtain ⟨x, y, r, t, rfl, ht, h2⟩ := gx_b2_inv hs
    cases h2
    exact lv_icmp_ne hx hb (gx_d hd rfl rfl) ht (fun h => by have h9 := kk ls hl; simpa only [h, decide_true, decide_false, not_true_eq_false, not_false_eq_true, if_true, if_false, Bool.false_eq_true] using h9) (fun h => by have h9 := kk ls hl; simpa only [h, decide_true, decide_false, not_true_eq_false, not_false_eq_true, if_true, if_false, Bool.false_eq_true] using h9)
  · obtain ⟨x, r, t, rfl, ht, h2⟩ := gx_b1_inv hs
    cases h2
    exact lv_if_lt hx hb (gx_d hd rfl rfl) ht (fun h => by have h9 := kk ls hl; simpa only [h, decide_true, decide_false, not_true_eq_false, not_false_eq_true, if_true, if_false, Bool.false_eq_true] using h9) (fun h => by have h9 := kk ls hl; simpa only [h, decide_true, decide_false, not_true_eq_false, not_false_eq_true, if_true, if_false, Bool.false_eq_true] using h9)
  · obtain ⟨x, y, r, t, rfl, ht, h2⟩ := gx_b2_inv hs
    cases h2
    exact lv_icmp_lt hx hb (gx_d hd rfl rfl) ht (fun h => by have h9 := kk ls hl; simpa only [h, decide_true, decide_false, not_true_eq_false, not_false_eq_true, if_true, if_false, Bool.false_eq_true] using h9) (fun h => by have h9 := kk ls hl; simpa only [h, decide_true, decide_false, not_true_eq_false, not_false_eq_true, if_true, if_false, Bool.false_eq_true] using h9)
  · obtain ⟨x, r, t, rfl, ht, h2⟩ := gx_b1_inv hs
    cases h2
    exact lv_if_ge hx hb (gx_d hd rfl rfl) ht (fun h => by have h9 := kk ls hl; simpa only [h, decide_true, decide_false, not_true_eq_false, not_false_eq_true, if_true, if_false, Bool.false_eq_true] using h9) (fun h => by have h9 := kk ls hl; simpa only [h, decide_true, decide_false, not_true_eq_false, not_false_eq_true, if_true, if_false, Bool.false_eq_true] using h9)
  · obtain ⟨x, y, r, t, rfl, ht, h2⟩ := gx_b2_inv hs
    cases h2
    exact lv_icmp_ge hx hb (gx_d hd rfl rfl) ht (fun h => by have h9 := kk ls hl; simpa only [h, decide_true, decide_false, not_true_eq_false, not_false_eq_true, if_true, if_false, Bool.false_eq_true] using h9) (fun h => by have h9 := kk ls hl; simpa only [h, decide_true, decide_false, not_true_eq_false, not_false_eq_true, if_true, if_false, Bool.false_eq_true] using h9)
  · obtain ⟨x, r, t, rfl, ht, h2⟩ := gx_b1_inv hs
    cases h2
    exact lv_if_gt hx hb (gx_d hd rfl rfl) ht (fun h => by have h9 := kk ls hl; simpa only [h, decide_true, decide_false, not_true_eq_false, not_false_eq_true, if_true, if_false, Bool.false_eq_true] using h9) (fun h => by have h9 := kk ls hl; simpa only [h, decide_true, decide_false, not_true_eq_false, not_false_eq_true, if_true, if_false, Bool.false_eq_true] using h9)
  · obtain ⟨x, y, r, t, rfl, ht, h2⟩ := gx_b2_inv hs
    cases h2
    exact lv_icmp_gt hx hb (gx_d hd rfl rfl) ht (fun h => by have h9 := kk ls hl; simpa only [h, decide_true, decide_false, not_true_eq_false, not_false_eq_true, if_true, if_false, Bool.false_eq_true] using h9) (fun h => by have h9 := kk ls hl; simpa only [h, decide_true, decide_false, not_true_eq_false, not_false_eq_true, if_true, if_false, Bool.false_eq_true] using h9)
  · obtain ⟨x, r, t, rfl, ht, h2⟩ := gx_b1_inv hs
    cases h2
    exact lv_if_le hx hb (gx_d hd rfl rfl) ht (fun h => by have h9 := kk ls hl; simpa only [h, decide_true, decide_false, not_true_eq_false, not_false_eq_true, if_true, if_false, Bool.false_eq_true] using h9) (fun h => by have h9 := kk ls hl; simpa only [h, decide_true, decide_false, not_true_eq_false, not_false_eq_true, if_true, if_false, Bool.false_eq_true] using h9)
  · obtain ⟨x, y, r, t, rfl, ht, h2⟩ := gx_b2_inv hs
    cases h2
    exact lv_icmp_le hx hb (gx_d hd rfl rfl) ht (fun h => by have h9 := kk ls hl; simpa only [h, decide_true, decide_false, not_true_eq_false, not_false_eq_true, if_true, if_false, Bool.false_eq_true] using h9) (fun h => by have h9 := kk ls hl; simpa only [h, decide_true, decide_false, not_true_eq_false, not_false_eq_true, if_true, if_false, Bool.false_eq_true] using h9)
  · obtain ⟨t, ht, h2⟩ := Option.map_eq_some_iff.mp hs
    cases h2
    exact lv_goto hx hb (gx_d hd rfl rfl) (gx_t_ok ht) (kk ls hl)
  · obtain ⟨r, t, ht, ⟨a, rfl, h2⟩ | ⟨rfl, h2⟩⟩ := gx_null_inv hs
    · cases h2
      exact lv_ifnull hx hb (gx_d hd rfl rfl) (kk ls hl)
    · cases h2
      exact lv_ifnullN hx hb (gx_d hd rfl rfl) ht (kk ls hl)
  · obtain ⟨r, t, ht, ⟨a, rfl, h2⟩ | ⟨rfl, h2⟩⟩ := gx_null_inv hs
    · cases h2
      exact lv_ifnonnull hx hb (gx_d hd rfl rfl) ht (kk ls hl)
    · cases h2
      exact lv_ifnonnullN hx hb (gx_d hd rfl rfl) (kk ls hl)
  · obtain ⟨len, hd, -⟩ := hd
    unfold gx_tab at hs
    split at hs
    · split at hs
      · rename_i h1
        split at hs
        · rename_i t ht
          cases hs
          exact lv_tableOut hx hb hd h1 (gx_t_ok ht) (kk ls hl)
        · cases hs
      · rename_i h1
        split at hs
        · rename_i off ho
          split at hs
          · rename_i t ht
            cases hs
            exact lv_tableIn hx hb hd (fun h => h1 (Or.inl h)) (fun h => h1 (Or.inr h)) ho (gx_t_ok ht) (kk ls hl)
          · cases hs
        · cases hs
    · cases hs
  · obtain ⟨len, hd, -⟩ := hd
    unfold gx_lks at hs
    split at hs
    · split at hs
      · rename_i h1
        split at hs
        · rename_i t ht
          cases hs
          exact lv_lookup hx hb hd h1 rfl (gx_t_ok ht) (kk ls hl)
        · cases hs
      · cases hs
    · cases hs
  · cases hs
end GX
