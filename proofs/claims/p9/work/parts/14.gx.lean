/-! A METHOD'S WALK AS A PATH OF VALUES: what each instruction does to locals and stack (a place, the locals that are known, the stack). -/
def gx_t (pc : Nat) (off : Int) : Option Nat := if 0 ≤ (pc : Int) + off then some ((pc : Int) + off).toNat else none
theorem gx_t_ok {pc t : Nat} {off : Int} (h : gx_t pc off = some t) : (pc : Int) + off = (t : Int) := by
  unfold gx_t at h
  split at h
  · cases h
    omega
  · cases h
def gx_look : List (Nat × Value) → Nat → Option Value
  | [], _ => none
  | q :: l, i => if q.1 = i then some q.2 else gx_look l i
theorem gx_look_mem {i : Nat} {v : Value} : ∀ {lv : List (Nat × Value)}, gx_look lv i = some v → (i, v) ∈ lv
  | [], h => by cases h
  | q :: l, h => by
    unfold gx_look at h
    split at h
    · rename_i h0
      cases h
      rw [← h0]
      exact List.mem_cons_self
    · exact List.mem_cons_of_mem _ (gx_look_mem h)
theorem gx_look_ok {ls : Array Slot} {N i : Nat} {lv : List (Nat × Value)} {v : Value} (hl : lv_has ls N lv) (h : gx_look lv i = some v) : ls[i]? = some (.val v) := hl.2.2 (i, v) (gx_look_mem h)
theorem gx_look_at {i : Nat} {v : Value} {lv : List (Nat × Value)} (h : gx_look lv i = some v) : ∃ k : Nat, lv[k]? = some (i, v) := List.getElem?_of_mem (gx_look_mem h)
def gx_sw : Instr → Bool
  | .tableswitch _ _ _ _ => true
  | .lookupswitch _ _ => true
  | _ => false
def gx_len : Instr → Nat
  | .iaload => 1
  | .iastore => 1
  | .baload => 1
  | .bastore => 1
  | .laload => 1
  | .lastore => 1
  | .aaload => 1
  | .aastore => 1
  | .arraylength => 1
  | .aconst_null => 1
  | .iadd => 1
  | .isub => 1
  | .imul => 1
  | .iand => 1
  | .ior => 1
  | .ixor => 1
  | .idiv => 1
  | .irem => 1
  | .ineg => 1
  | .ishl => 1
  | .ishr => 1
  | .iushr => 1
  | .ladd => 1
  | .lsub => 1
  | .lmul => 1
  | .land => 1
  | .lor => 1
  | .lxor => 1
  | .ldiv => 1
  | .lrem => 1
  | .lneg => 1
  | .lshl => 1
  | .lshr => 1
  | .lushr => 1
  | .i2l => 1
  | .l2i => 1
  | .i2b => 1
  | .i2c => 1
  | .i2s => 1
  | .lcmp => 1
  | .dup => 1
  | .dup_x1 => 1
  | .dup_x2 => 1
  | .dup2 => 1
  | .pop => 1
  | .ireturn => 1
  | .lreturn => 1
  | .areturn => 1
  | .return_ => 1
  | .athrow => 1
  | .iconst _ => 1
  | .lconst _ => 1
  | .iload_n _ => 1
  | .lload_n _ => 1
  | .aload_n _ => 1
  | .istore_n _ => 1
  | .lstore_n _ => 1
  | .astore_n _ => 1
  | .bipush _ => 2
  | .iload _ => 2
  | .lload _ => 2
  | .aload _ => 2
  | .istore _ => 2
  | .lstore _ => 2
  | .astore _ => 2
  | .ldc _ => 2
  | .newarray _ => 2
  | .getstatic _ => 3
  | .checkcast _ => 3
  | .sipush _ => 3
  | .ldc_w _ => 3
  | .ldc2_w _ => 3
  | .getfield _ => 3
  | .putfield _ => 3
  | .invokevirtual _ => 3
  | .invokestatic _ => 3
  | .invokespecial _ => 3
  | .new _ => 3
  | .anewarray _ => 3
  | .goto _ => 3
  | .ifnull _ => 3
  | .ifnonnull _ => 3
  | .iinc _ _ => 3
  | .ifCond _ _ => 3
  | .if_icmp _ _ => 3
  | .if_acmp _ _ => 3
  | .multianewarray _ _ => 4
  | _ => 0
/-- the instruction that stands at a place -/
def gx_dec (cc : ByteArray) (pc : Nat) (i : Instr) : Prop := ∃ len, decode cc pc = .ok (i, len) ∧ (gx_sw i = true ∨ gx_len i = len)
theorem gx_d {cc : ByteArray} {pc k : Nat} {i : Instr} (h : gx_dec cc pc i) (hs : gx_sw i = false) (hk : gx_len i = k) : decode cc pc = .ok (i, k) := by
  obtain ⟨len, h1, h2 | h2⟩ := h
  · rw [hs] at h2; cases h2
  · rw [h1, ← hk, h2]
section GX
variable {p : Program} {l : Launch} {e : Env} {R : Room} {s : State} {m : MethodId} {args : Array Value} {below : List Frame} {meth : Method} {c : Code} {H : Heap} {locs : List Loc} {cells slots : Nat} {Q : State → Prop}
variable {cc : ByteArray} {pc pcₚ N : Nat} {ls : Array Slot} {lv lvₚ : List (Nat × Value)} {st stₚ : List Value} {i : Instr}
end GX
