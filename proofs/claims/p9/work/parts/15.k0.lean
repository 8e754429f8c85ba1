/-! CODE AS LISTS: the reference. -/
def gq_c (l : List (Nat × Instr)) (pc : Nat) : Option Instr := match l with
  | [] => none
  | q :: t => cond (Nat.beq q.1 pc) (some q.2) (gq_c t pc)
def gq_chk (cc : ByteArray) : List (Nat × Instr) → Bool
  | [] => true
  | q :: t => (match decode cc q.1 with
    | .ok (j, len) => decide (j = q.2) && (gx_sw j || gx_len j == len)
    | _ => false) && gq_chk cc t
theorem gq_ok {cc : ByteArray} : ∀ {l : List (Nat × Instr)}, gq_chk cc l = true → ∀ pc i, gq_c l pc = some i → gx_dec cc pc i
  | [], _, _, _, h => by cases h
  | q :: t, hc, pc, i, h => by
    unfold gq_chk at hc
    rw [Bool.and_eq_true] at hc
    unfold gq_c at h
    cases hb : Nat.beq q.1 pc with
    | true =>
      rw [hb] at h
      cases h
      have e : q.1 = pc := Nat.eq_of_beq_eq_true hb
      subst e
      have h1 := hc.1
      split at h1
      · rename_i j len hd
        rw [Bool.and_eq_true, decide_eq_true_eq, Bool.or_eq_true, beq_iff_eq] at h1
        obtain ⟨rfl, h2⟩ := h1
        exact ⟨len, hd, h2⟩
      · cases h1
    | false =>
      rw [hb] at h
      exact gq_ok hc.2 pc i h
theorem gq_cd {cc : ByteArray} {t : Nat} {f g : Nat → Option Instr} (hf : ∀ pc i, f pc = some i → gx_dec cc pc i) (hg : ∀ pc i, g pc = some i → gx_dec cc pc i) : ∀ pc i, cond (Nat.blt pc t) (f pc) (g pc) = some i → gx_dec cc pc i := fun pc i h => by
  cases hb : Nat.blt pc t with
  | true => rw [hb] at h; exact hf pc i h
  | false => rw [hb] at h; exact hg pc i h
theorem gq_of {cc : ByteArray} {k : Nat → Option Instr} (h : ∀ pc i, k pc = some i → gx_dec cc pc i) : ∀ pc i, k pc = some i → gx_dec cc pc i := h
/-! DECODING QUICKLY: an instruction is checked against its own bytes; the bytes ahead are passed over once a chunk. -/
theorem gq_dr {α : Type} {a : α} {r : List α} : ∀ {p : Nat} {l : List α}, l.drop p = a :: r → l.drop (p + 1) = r
  | 0, l, h => by
    have hₚ : l = a :: r := h
    rw [hₚ]
    rfl
  | p + 1, [], h => by
    have hₚ : ([] : List α) = a :: r := h
    cases hₚ
  | p + 1, x :: l, h => by
    rw [List.drop_succ_cons] at h ⊢
    exact gq_dr h
def gq_h (l : List UInt8) : Nat := match l with
  | [] => 256
  | a :: _ => a.toNat
theorem gq_hc {l : List UInt8} (h : Nat.blt (gq_h l) 256 = true) : ∃ a r, l = a :: r := by
  cases l with
  | nil => exact absurd (show Nat.blt 256 256 = true from h) (by decide)
  | cons a r => exact ⟨a, r, rfl⟩
section GQD
variable {cc : ByteArray} {pc p : Nat} {a b c : UInt8} {r : List UInt8}
theorem gq_u1 (h : cc.data.toList.drop p = a :: r) : (Reader.u1 : Decoder Nat) cc p = .ok (a.toNat, p + 1) := by
  have hl : p < cc.data.toList.length := by
    rcases Nat.lt_or_ge p cc.data.toList.length with g | g
    · exact g
    · rw [List.drop_eq_nil_of_le g] at h
      cases h
  have hs : p < cc.size := hl
  rw [List.drop_eq_getElem_cons hl] at h
  have hg : cc[p] = a := (List.cons.inj h).1
  show (do if h : p < cc.size then do set (p + 1); pure cc[p].toNat else throw (HasTruncated.truncated p) : Decoder Nat) cc p = _
  rw [dif_pos hs, hg]
  rfl
theorem gq_bd {α β : Type} {x : Decoder α} {f : α → Decoder β} {q : Nat} {v : α} (h : x cc p = .ok (v, q)) : (x >>= f) cc p = f v cc q := by
  show (do let (v, s) ← x cc p; f v cc s : Except DecodeError (β × Nat)) = _
  rw [h]
  rfl
theorem gq_u2 (h : cc.data.toList.drop p = a :: b :: r) : (Reader.u2 : Decoder Nat) cc p = .ok (a.toNat * 256 + b.toNat, p + 2) := by
  show (do let hi ← Reader.u1; let lo ← Reader.u1; pure (hi * 256 + lo) : Decoder Nat) cc p = _
  exact (gq_bd (gq_u1 h)).trans ((gq_bd (gq_u1 (gq_dr h))).trans rfl)
theorem gq_v1 (h : cc.data.toList.drop p = a :: r) : (Reader.s1 : Decoder Int) cc p = .ok (Reader.signed 8 a.toNat, p + 1) := by
  show (do let (v, s) ← (Reader.u1 : Decoder Nat) cc p; .ok (Reader.signed 8 v, s) : Except DecodeError (Int × Nat)) = _
  rw [gq_u1 h]
  rfl
theorem gq_v2 (h : cc.data.toList.drop p = a :: b :: r) : (Reader.s2 : Decoder Int) cc p = .ok (Reader.signed 16 (a.toNat * 256 + b.toNat), p + 2) := by
  show (do let (v, s) ← (Reader.u2 : Decoder Nat) cc p; .ok (Reader.signed 16 v, s) : Except DecodeError (Int × Nat)) = _
  rw [gq_u2 h]
  rfl
theorem gq_i {op k : Nat} {i : Instr} (f : Nat → Decoder Instr) (e : Decoder.instr pc = (Reader.u1 >>= f)) (h : cc.data.toList.drop pc = a :: r) (ho : a.toNat = op) (g : f op cc (pc + 1) = .ok (i, pc + k)) : decode cc pc = .ok (i, k) := by
  have h1 : Decoder.instr pc cc pc = .ok (i, pc + k) := by
    rw [e, gq_bd (gq_u1 h), ho]
    exact g
  show (do let (x, n) ← Decoder.instr pc cc pc; pure (x, n - pc) : Except DecodeError (Instr × Nat)) = _
  rw [h1]
  show Except.ok (i, pc + k - pc) = _
  rw [Nat.add_sub_cancel_left]
def gq_a1 (op b1 n m : Nat) : Bool := Nat.beq op n && (Nat.beq b1 m && Nat.blt b1 256)
def gq_a2 (op b1 b2 n m : Nat) : Bool := Nat.beq op n && (Nat.beq (b1 * 256 + b2) m && (Nat.blt b1 256 && Nat.blt b2 256))
def gq_s1 (op b1 n : Nat) (k : Int) : Bool := Nat.beq op n && (decide (Reader.signed 8 b1 = k) && Nat.blt b1 256)
def gq_s2 (op b1 b2 n : Nat) (k : Int) : Bool := Nat.beq op n && (decide (Reader.signed 16 (b1 * 256 + b2) = k) && (Nat.blt b1 256 && Nat.blt b2 256))
theorem gq_e1 {C : Nat → Instr} {op m : Nat} (hop : ∀ {b r'}, cc.data.toList.drop pc = a :: b :: r' → a.toNat = op → decode cc pc = .ok (C b.toNat, 2)) (hl : ∀ n, gx_len (C n) = 2) (h : cc.data.toList.drop pc = a :: r) (hi : gq_a1 a.toNat (gq_h r) op m = true) : gx_dec cc pc (C m) := by
  unfold gq_a1 at hi
  rw [Bool.and_eq_true, Bool.and_eq_true] at hi
  obtain ⟨h0, h1, h2⟩ := hi
  obtain ⟨b, r1, rfl⟩ := gq_hc h2
  have hm : b.toNat = m := Nat.eq_of_beq_eq_true h1
  rw [← hm]
  exact ⟨2, hop h (Nat.eq_of_beq_eq_true h0), Or.inr (hl _)⟩
theorem gq_f1 {C : Int → Instr} {op : Nat} {m : Int} (hop : ∀ {b r'}, cc.data.toList.drop pc = a :: b :: r' → a.toNat = op → decode cc pc = .ok (C (Reader.signed 8 b.toNat), 2)) (hl : ∀ n, gx_len (C n) = 2) (h : cc.data.toList.drop pc = a :: r) (hi : gq_s1 a.toNat (gq_h r) op m = true) : gx_dec cc pc (C m) := by
  unfold gq_s1 at hi
  rw [Bool.and_eq_true, Bool.and_eq_true, decide_eq_true_eq] at hi
  obtain ⟨h0, h1, h2⟩ := hi
  obtain ⟨b, r1, rfl⟩ := gq_hc h2
  have hm : Reader.signed 8 b.toNat = m := h1
  rw [← hm]
  exact ⟨2, hop h (Nat.eq_of_beq_eq_true h0), Or.inr (hl _)⟩
theorem gq_e2 {C : Nat → Instr} {op m : Nat} (hop : ∀ {b c r'}, cc.data.toList.drop pc = a :: b :: c :: r' → a.toNat = op → decode cc pc = .ok (C (b.toNat * 256 + c.toNat), 3)) (hl : ∀ n, gx_len (C n) = 3) (h : cc.data.toList.drop pc = a :: r) (hi : gq_a2 a.toNat (gq_h r) (gq_h (r.drop 1)) op m = true) : gx_dec cc pc (C m) := by
  unfold gq_a2 at hi
  rw [Bool.and_eq_true, Bool.and_eq_true, Bool.and_eq_true] at hi
  obtain ⟨h0, h1, h2, h3⟩ := hi
  obtain ⟨b, r1, rfl⟩ := gq_hc h2
  obtain ⟨c, r2, e⟩ := gq_hc h3
  have e' : r1 = c :: r2 := e
  subst e'
  have hm : b.toNat * 256 + c.toNat = m := Nat.eq_of_beq_eq_true h1
  rw [← hm]
  exact ⟨3, hop h (Nat.eq_of_beq_eq_true h0), Or.inr (hl _)⟩
theorem gq_f2 {C : Int → Instr} {op : Nat} {m : Int} (hop : ∀ {b c r'}, cc.data.toList.drop pc = a :: b :: c :: r' → a.toNat = op → decode cc pc = .ok (C (Reader.signed 16 (b.toNat * 256 + c.toNat)), 3)) (hl : ∀ n, gx_len (C n) = 3) (h : cc.data.toList.drop pc = a :: r) (hi : gq_s2 a.toNat (gq_h r) (gq_h (r.drop 1)) op m = true) : gx_dec cc pc (C m) := by
  unfold gq_s2 at hi
  rw [Bool.and_eq_true, Bool.and_eq_true, Bool.and_eq_true, decide_eq_true_eq] at hi
  obtain ⟨h0, h1, h2, h3⟩ := hi
  obtain ⟨b, r1, rfl⟩ := gq_hc h2
  obtain ⟨c, r2, e⟩ := gq_hc h3
  have e' : r1 = c :: r2 := e
  subst e'
  have hm : Reader.signed 16 (b.toNat * 256 + c.toNat) = m := h1
  rw [← hm]
  exact ⟨3, hop h (Nat.eq_of_beq_eq_true h0), Or.inr (hl _)⟩
def gq_one (op b1 b2 : Nat) (i : Instr) : Bool := match i with
  | .aaload => Nat.beq op 50
  | .aastore => Nat.beq op 83
  | .aconst_null => Nat.beq op 1
  | .areturn => Nat.beq op 176
  | .arraylength => Nat.beq op 190
  | .athrow => Nat.beq op 191
  | .baload => Nat.beq op 51
  | .bastore => Nat.beq op 84
  | .dup => Nat.beq op 89
  | .dup_x1 => Nat.beq op 90
  | .dup_x2 => Nat.beq op 91
  | .dup2 => Nat.beq op 92
  | .i2b => Nat.beq op 145
  | .i2c => Nat.beq op 146
  | .i2s => Nat.beq op 147
  | .i2l => Nat.beq op 133
  | .iadd => Nat.beq op 96
  | .iaload => Nat.beq op 46
  | .iand => Nat.beq op 126
  | .iastore => Nat.beq op 79
  | .idiv => Nat.beq op 108
  | .imul => Nat.beq op 104
  | .ineg => Nat.beq op 116
  | .ior => Nat.beq op 128
  | .irem => Nat.beq op 112
  | .ireturn => Nat.beq op 172
  | .ishl => Nat.beq op 120
  | .ishr => Nat.beq op 122
  | .isub => Nat.beq op 100
  | .iushr => Nat.beq op 124
  | .ixor => Nat.beq op 130
  | .l2i => Nat.beq op 136
  | .ladd => Nat.beq op 97
  | .laload => Nat.beq op 47
  | .land => Nat.beq op 127
  | .lastore => Nat.beq op 80
  | .lcmp => Nat.beq op 148
  | .ldiv => Nat.beq op 109
  | .lmul => Nat.beq op 105
  | .lneg => Nat.beq op 117
  | .lor => Nat.beq op 129
  | .lrem => Nat.beq op 113
  | .lreturn => Nat.beq op 173
  | .lshl => Nat.beq op 121
  | .lshr => Nat.beq op 123
  | .lsub => Nat.beq op 101
  | .lushr => Nat.beq op 125
  | .lxor => Nat.beq op 131
  | .pop => Nat.beq op 87
  | .return_ => Nat.beq op 177
  | .iconst k => decide (k = (op : Int) - 3) && (Nat.ble 2 op && Nat.ble op 8)
  | .lconst n => Nat.beq op (9 + n.val)
  | .iload_n n => Nat.beq op (26 + n.val)
  | .lload_n n => Nat.beq op (30 + n.val)
  | .aload_n n => Nat.beq op (42 + n.val)
  | .istore_n n => Nat.beq op (59 + n.val)
  | .lstore_n n => Nat.beq op (63 + n.val)
  | .astore_n n => Nat.beq op (75 + n.val)
  | .ldc m => gq_a1 op b1 18 m
  | .iload m => gq_a1 op b1 21 m
  | .lload m => gq_a1 op b1 22 m
  | .aload m => gq_a1 op b1 25 m
  | .istore m => gq_a1 op b1 54 m
  | .lstore m => gq_a1 op b1 55 m
  | .astore m => gq_a1 op b1 58 m
  | .bipush k => gq_s1 op b1 16 k
  | .ldc_w m => gq_a2 op b1 b2 19 m
  | .ldc2_w m => gq_a2 op b1 b2 20 m
  | .getstatic m => gq_a2 op b1 b2 178 m
  | .getfield m => gq_a2 op b1 b2 180 m
  | .putfield m => gq_a2 op b1 b2 181 m
  | .invokevirtual m => gq_a2 op b1 b2 182 m
  | .invokespecial m => gq_a2 op b1 b2 183 m
  | .invokestatic m => gq_a2 op b1 b2 184 m
  | .new m => gq_a2 op b1 b2 187 m
  | .anewarray m => gq_a2 op b1 b2 189 m
  | .checkcast m => gq_a2 op b1 b2 192 m
  | .sipush k => gq_s2 op b1 b2 17 k
  | .goto k => gq_s2 op b1 b2 167 k
  | .ifnull k => gq_s2 op b1 b2 198 k
  | .ifnonnull k => gq_s2 op b1 b2 199 k
  | .ifCond .eq k => gq_s2 op b1 b2 153 k
  | .ifCond .ne k => gq_s2 op b1 b2 154 k
  | .ifCond .lt k => gq_s2 op b1 b2 155 k
  | .ifCond .ge k => gq_s2 op b1 b2 156 k
  | .ifCond .gt k => gq_s2 op b1 b2 157 k
  | .ifCond .le k => gq_s2 op b1 b2 158 k
  | .if_icmp .eq k => gq_s2 op b1 b2 159 k
  | .if_icmp .ne k => gq_s2 op b1 b2 160 k
  | .if_icmp .lt k => gq_s2 op b1 b2 161 k
  | .if_icmp .ge k => gq_s2 op b1 b2 162 k
  | .if_icmp .gt k => gq_s2 op b1 b2 163 k
  | .if_icmp .le k => gq_s2 op b1 b2 164 k
  | .if_acmp .eq k => gq_s2 op b1 b2 165 k
  | .if_acmp .ne k => gq_s2 op b1 b2 166 k
  | .iinc m k => Nat.beq op 132 && ((Nat.beq b1 m && Nat.blt b1 256) && (decide (Reader.signed 8 b2 = k) && Nat.blt b2 256))
  | _ => false
set_option maxHeartbeats 8000000 in
set_option maxRecDepth 100000 in
theorem gq_one_ok {i : Instr} (h : cc.data.toList.drop pc = a :: r) (hi : gq_one a.toNat (gq_h r) (gq_h (r.drop 1)) i = true) : gx_dec cc pc i := by
  cases i
  case aaload => exact ⟨1, gq_i _ rfl h (Nat.eq_of_beq_eq_true (m := 50) hi) rfl, Or.inr rfl⟩
  case aastore => exact ⟨1, gq_i _ rfl h (Nat.eq_of_beq_eq_true (m := 83) hi) rfl, Or.inr rfl⟩
  case aconst_null => exact ⟨1, gq_i _ rfl h (Nat.eq_of_beq_eq_true (m := 1) hi) rfl, Or.inr rfl⟩
  case areturn => exact ⟨1, gq_i _ rfl h (Nat.eq_of_beq_eq_true (m := 176) hi) rfl, Or.inr rfl⟩
  case arraylength => exact ⟨1, gq_i _ rfl h (Nat.eq_of_beq_eq_true (m := 190) hi) rfl, Or.inr rfl⟩
  case athrow => exact ⟨1, gq_i _ rfl h (Nat.eq_of_beq_eq_true (m := 191) hi) rfl, Or.inr rfl⟩
  case baload => exact ⟨1, gq_i _ rfl h (Nat.eq_of_beq_eq_true (m := 51) hi) rfl, Or.inr rfl⟩
  case bastore => exact ⟨1, gq_i _ rfl h (Nat.eq_of_beq_eq_true (m := 84) hi) rfl, Or.inr rfl⟩
  case dup => exact ⟨1, gq_i _ rfl h (Nat.eq_of_beq_eq_true (m := 89) hi) rfl, Or.inr rfl⟩
  case dup_x1 => exact ⟨1, gq_i _ rfl h (Nat.eq_of_beq_eq_true (m := 90) hi) rfl, Or.inr rfl⟩
  case dup_x2 => exact ⟨1, gq_i _ rfl h (Nat.eq_of_beq_eq_true (m := 91) hi) rfl, Or.inr rfl⟩
  case dup2 => exact ⟨1, gq_i _ rfl h (Nat.eq_of_beq_eq_true (m := 92) hi) rfl, Or.inr rfl⟩
  case i2b => exact ⟨1, gq_i _ rfl h (Nat.eq_of_beq_eq_true (m := 145) hi) rfl, Or.inr rfl⟩
  case i2c => exact ⟨1, gq_i _ rfl h (Nat.eq_of_beq_eq_true (m := 146) hi) rfl, Or.inr rfl⟩
  case i2s => exact ⟨1, gq_i _ rfl h (Nat.eq_of_beq_eq_true (m := 147) hi) rfl, Or.inr rfl⟩
  case i2l => exact ⟨1, gq_i _ rfl h (Nat.eq_of_beq_eq_true (m := 133) hi) rfl, Or.inr rfl⟩
  case iadd => exact ⟨1, gq_i _ rfl h (Nat.eq_of_beq_eq_true (m := 96) hi) rfl, Or.inr rfl⟩
  case iaload => exact ⟨1, gq_i _ rfl h (Nat.eq_of_beq_eq_true (m := 46) hi) rfl, Or.inr rfl⟩
  case iand => exact ⟨1, gq_i _ rfl h (Nat.eq_of_beq_eq_true (m := 126) hi) rfl, Or.inr rfl⟩
  case iastore => exact ⟨1, gq_i _ rfl h (Nat.eq_of_beq_eq_true (m := 79) hi) rfl, Or.inr rfl⟩
  case idiv => exact ⟨1, gq_i _ rfl h (Nat.eq_of_beq_eq_true (m := 108) hi) rfl, Or.inr rfl⟩
  case imul => exact ⟨1, gq_i _ rfl h (Nat.eq_of_beq_eq_true (m := 104) hi) rfl, Or.inr rfl⟩
  case ineg => exact ⟨1, gq_i _ rfl h (Nat.eq_of_beq_eq_true (m := 116) hi) rfl, Or.inr rfl⟩
  case ior => exact ⟨1, gq_i _ rfl h (Nat.eq_of_beq_eq_true (m := 128) hi) rfl, Or.inr rfl⟩
  case irem => exact ⟨1, gq_i _ rfl h (Nat.eq_of_beq_eq_true (m := 112) hi) rfl, Or.inr rfl⟩
  case ireturn => exact ⟨1, gq_i _ rfl h (Nat.eq_of_beq_eq_true (m := 172) hi) rfl, Or.inr rfl⟩
  case ishl => exact ⟨1, gq_i _ rfl h (Nat.eq_of_beq_eq_true (m := 120) hi) rfl, Or.inr rfl⟩
  case ishr => exact ⟨1, gq_i _ rfl h (Nat.eq_of_beq_eq_true (m := 122) hi) rfl, Or.inr rfl⟩
  case isub => exact ⟨1, gq_i _ rfl h (Nat.eq_of_beq_eq_true (m := 100) hi) rfl, Or.inr rfl⟩
  case iushr => exact ⟨1, gq_i _ rfl h (Nat.eq_of_beq_eq_true (m := 124) hi) rfl, Or.inr rfl⟩
  case ixor => exact ⟨1, gq_i _ rfl h (Nat.eq_of_beq_eq_true (m := 130) hi) rfl, Or.inr rfl⟩
  case l2i => exact ⟨1, gq_i _ rfl h (Nat.eq_of_beq_eq_true (m := 136) hi) rfl, Or.inr rfl⟩
  case ladd => exact ⟨1, gq_i _ rfl h (Nat.eq_of_beq_eq_true (m := 97) hi) rfl, Or.inr rfl⟩
  case laload => exact ⟨1, gq_i _ rfl h (Nat.eq_of_beq_eq_true (m := 47) hi) rfl, Or.inr rfl⟩
  case land => exact ⟨1, gq_i _ rfl h (Nat.eq_of_beq_eq_true (m := 127) hi) rfl, Or.inr rfl⟩
  case lastore => exact ⟨1, gq_i _ rfl h (Nat.eq_of_beq_eq_true (m := 80) hi) rfl, Or.inr rfl⟩
  case lcmp => exact ⟨1, gq_i _ rfl h (Nat.eq_of_beq_eq_true (m := 148) hi) rfl, Or.inr rfl⟩
  case ldiv => exact ⟨1, gq_i _ rfl h (Nat.eq_of_beq_eq_true (m := 109) hi) rfl, Or.inr rfl⟩
  case lmul => exact ⟨1, gq_i _ rfl h (Nat.eq_of_beq_eq_true (m := 105) hi) rfl, Or.inr rfl⟩
  case lneg => exact ⟨1, gq_i _ rfl h (Nat.eq_of_beq_eq_true (m := 117) hi) rfl, Or.inr rfl⟩
  case lor => exact ⟨1, gq_i _ rfl h (Nat.eq_of_beq_eq_true (m := 129) hi) rfl, Or.inr rfl⟩
  case lrem => exact ⟨1, gq_i _ rfl h (Nat.eq_of_beq_eq_true (m := 113) hi) rfl, Or.inr rfl⟩
  case lreturn => exact ⟨1, gq_i _ rfl h (Nat.eq_of_beq_eq_true (m := 173) hi) rfl, Or.inr rfl⟩
  case lshl => exact ⟨1, gq_i _ rfl h (Nat.eq_of_beq_eq_true (m := 121) hi) rfl, Or.inr rfl⟩
  case lshr => exact ⟨1, gq_i _ rfl h (Nat.eq_of_beq_eq_true (m := 123) hi) rfl, Or.inr rfl⟩
  case lsub => exact ⟨1, gq_i _ rfl h (Nat.eq_of_beq_eq_true (m := 101) hi) rfl, Or.inr rfl⟩
  case lushr => exact ⟨1, gq_i _ rfl h (Nat.eq_of_beq_eq_true (m := 125) hi) rfl, Or.inr rfl⟩
  case lxor => exact ⟨1, gq_i _ rfl h (Nat.eq_of_beq_eq_true (m := 131) hi) rfl, Or.inr rfl⟩
  case pop => exact ⟨1, gq_i _ rfl h (Nat.eq_of_beq_eq_true (m := 87) hi) rfl, Or.inr rfl⟩
  case return_ => exact ⟨1, gq_i _ rfl h (Nat.eq_of_beq_eq_true (m := 177) hi) rfl, Or.inr rfl⟩
  case iconst k =>
    have hi' : (decide (k = (a.toNat : Int) - 3) && (Nat.ble 2 a.toNat && Nat.ble a.toNat 8)) = true := hi
    rw [Bool.and_eq_true, Bool.and_eq_true, decide_eq_true_eq] at hi'
    obtain ⟨h0, h1, h2⟩ := hi'
    have h3 := Nat.le_of_ble_eq_true h1
    have h4 := Nat.le_of_ble_eq_true h2
    have h5 : a.toNat = 2 ∨ a.toNat = 3 ∨ a.toNat = 4 ∨ a.toNat = 5 ∨ a.toNat = 6 ∨ a.toNat = 7 ∨ a.toNat = 8 := by omega
    rcases h5 with e | e | e | e | e | e | e
    · rw [show k = (-1) from by omega]
      exact ⟨1, gq_i _ rfl h e rfl, Or.inr rfl⟩
    · rw [show k = 0 from by omega]
      exact ⟨1, gq_i _ rfl h e rfl, Or.inr rfl⟩
    · rw [show k = 1 from by omega]
      exact ⟨1, gq_i _ rfl h e rfl, Or.inr rfl⟩
    · rw [show k = 2 from by omega]
      exact ⟨1, gq_i _ rfl h e rfl, Or.inr rfl⟩
    · rw [show k = 3 from by omega]
      exact ⟨1, gq_i _ rfl h e rfl, Or.inr rfl⟩
    · rw [show k = 4 from by omega]
      exact ⟨1, gq_i _ rfl h e rfl, Or.inr rfl⟩
    · rw [show k = 5 from by omega]
      exact ⟨1, gq_i _ rfl h e rfl, Or.inr rfl⟩
  case lconst n =>
    obtain ⟨n, hn⟩ := n
    have e : a.toNat = 9 + n := Nat.eq_of_beq_eq_true hi
    have h5 : n = 0 ∨ n = 1 := by omega
    rcases h5 with rfl | rfl
    · exact ⟨1, gq_i _ rfl h (show a.toNat = 9 from e) rfl, Or.inr rfl⟩
    · exact ⟨1, gq_i _ rfl h (show a.toNat = 10 from e) rfl, Or.inr rfl⟩
  case iload_n n =>
    obtain ⟨n, hn⟩ := n
    have e : a.toNat = 26 + n := Nat.eq_of_beq_eq_true hi
    have h5 : n = 0 ∨ n = 1 ∨ n = 2 ∨ n = 3 := by omega
    rcases h5 with rfl | rfl | rfl | rfl
    · exact ⟨1, gq_i _ rfl h (show a.toNat = 26 from e) rfl, Or.inr rfl⟩
    · exact ⟨1, gq_i _ rfl h (show a.toNat = 27 from e) rfl, Or.inr rfl⟩
    · exact ⟨1, gq_i _ rfl h (show a.toNat = 28 from e) rfl, Or.inr rfl⟩
    · exact ⟨1, gq_i _ rfl h (show a.toNat = 29 from e) rfl, Or.inr rfl⟩
  case lload_n n =>
    obtain ⟨n, hn⟩ := n
    have e : a.toNat = 30 + n := Nat.eq_of_beq_eq_true hi
    have h5 : n = 0 ∨ n = 1 ∨ n = 2 ∨ n = 3 := by omega
    rcases h5 with rfl | rfl | rfl | rfl
    · exact ⟨1, gq_i _ rfl h (show a.toNat = 30 from e) rfl, Or.inr rfl⟩
    · exact ⟨1, gq_i _ rfl h (show a.toNat = 31 from e) rfl, Or.inr rfl⟩
    · exact ⟨1, gq_i _ rfl h (show a.toNat = 32 from e) rfl, Or.inr rfl⟩
    · exact ⟨1, gq_i _ rfl h (show a.toNat = 33 from e) rfl, Or.inr rfl⟩
  case aload_n n =>
    obtain ⟨n, hn⟩ := n
    have e : a.toNat = 42 + n := Nat.eq_of_beq_eq_true hi
    have h5 : n = 0 ∨ n = 1 ∨ n = 2 ∨ n = 3 := by omega
    rcases h5 with rfl | rfl | rfl | rfl
    · exact ⟨1, gq_i _ rfl h (show a.toNat = 42 from e) rfl, Or.inr rfl⟩
    · exact ⟨1, gq_i _ rfl h (show a.toNat = 43 from e) rfl, Or.inr rfl⟩
    · exact ⟨1, gq_i _ rfl h (show a.toNat = 44 from e) rfl, Or.inr rfl⟩
    · exact ⟨1, gq_i _ rfl h (show a.toNat = 45 from e) rfl, Or.inr rfl⟩
  case istore_n n =>
    obtain ⟨n, hn⟩ := n
    have e : a.toNat = 59 + n := Nat.eq_of_beq_eq_true hi
    have h5 : n = 0 ∨ n = 1 ∨ n = 2 ∨ n = 3 := by omega
    rcases h5 with rfl | rfl | rfl | rfl
    · exact ⟨1, gq_i _ rfl h (show a.toNat = 59 from e) rfl, Or.inr rfl⟩
    · exact ⟨1, gq_i _ rfl h (show a.toNat = 60 from e) rfl, Or.inr rfl⟩
    · exact ⟨1, gq_i _ rfl h (show a.toNat = 61 from e) rfl, Or.inr rfl⟩
    · exact ⟨1, gq_i _ rfl h (show a.toNat = 62 from e) rfl, Or.inr rfl⟩
  case lstore_n n =>
    obtain ⟨n, hn⟩ := n
    have e : a.toNat = 63 + n := Nat.eq_of_beq_eq_true hi
    have h5 : n = 0 ∨ n = 1 ∨ n = 2 ∨ n = 3 := by omega
    rcases h5 with rfl | rfl | rfl | rfl
    · exact ⟨1, gq_i _ rfl h (show a.toNat = 63 from e) rfl, Or.inr rfl⟩
    · exact ⟨1, gq_i _ rfl h (show a.toNat = 64 from e) rfl, Or.inr rfl⟩
    · exact ⟨1, gq_i _ rfl h (show a.toNat = 65 from e) rfl, Or.inr rfl⟩
    · exact ⟨1, gq_i _ rfl h (show a.toNat = 66 from e) rfl, Or.inr rfl⟩
  case astore_n n =>
    obtain ⟨n, hn⟩ := n
    have e : a.toNat = 75 + n := Nat.eq_of_beq_eq_true hi
    have h5 : n = 0 ∨ n = 1 ∨ n = 2 ∨ n = 3 := by omega
    rcases h5 with rfl | rfl | rfl | rfl
    · exact ⟨1, gq_i _ rfl h (show a.toNat = 75 from e) rfl, Or.inr rfl⟩
    · exact ⟨1, gq_i _ rfl h (show a.toNat = 76 from e) rfl, Or.inr rfl⟩
    · exact ⟨1, gq_i _ rfl h (show a.toNat = 77 from e) rfl, Or.inr rfl⟩
    · exact ⟨1, gq_i _ rfl h (show a.toNat = 78 from e) rfl, Or.inr rfl⟩
  case ldc m => exact gq_e1 (C := .ldc) (op := 18) (fun h9 ho => gq_i _ rfl h9 ho ((gq_bd (gq_u1 (gq_dr h9))).trans rfl)) (fun _ => rfl) h hi
  case iload m => exact gq_e1 (C := .iload) (op := 21) (fun h9 ho => gq_i _ rfl h9 ho ((gq_bd (gq_u1 (gq_dr h9))).trans rfl)) (fun _ => rfl) h hi
  case lload m => exact gq_e1 (C := .lload) (op := 22) (fun h9 ho => gq_i _ rfl h9 ho ((gq_bd (gq_u1 (gq_dr h9))).trans rfl)) (fun _ => rfl) h hi
  case aload m => exact gq_e1 (C := .aload) (op := 25) (fun h9 ho => gq_i _ rfl h9 ho ((gq_bd (gq_u1 (gq_dr h9))).trans rfl)) (fun _ => rfl) h hi
  case istore m => exact gq_e1 (C := .istore) (op := 54) (fun h9 ho => gq_i _ rfl h9 ho ((gq_bd (gq_u1 (gq_dr h9))).trans rfl)) (fun _ => rfl) h hi
  case lstore m => exact gq_e1 (C := .lstore) (op := 55) (fun h9 ho => gq_i _ rfl h9 ho ((gq_bd (gq_u1 (gq_dr h9))).trans rfl)) (fun _ => rfl) h hi
  case astore m => exact gq_e1 (C := .astore) (op := 58) (fun h9 ho => gq_i _ rfl h9 ho ((gq_bd (gq_u1 (gq_dr h9))).trans rfl)) (fun _ => rfl) h hi
  case bipush k => exact gq_f1 (C := .bipush) (op := 16) (fun h9 ho => gq_i _ rfl h9 ho ((gq_bd (gq_v1 (gq_dr h9))).trans rfl)) (fun _ => rfl) h hi
  case ldc_w m => exact gq_e2 (C := .ldc_w) (op := 19) (fun h9 ho => gq_i _ rfl h9 ho ((gq_bd (gq_u2 (gq_dr h9))).trans rfl)) (fun _ => rfl) h hi
  case ldc2_w m => exact gq_e2 (C := .ldc2_w) (op := 20) (fun h9 ho => gq_i _ rfl h9 ho ((gq_bd (gq_u2 (gq_dr h9))).trans rfl)) (fun _ => rfl) h hi
  case getstatic m => exact gq_e2 (C := .getstatic) (op := 178) (fun h9 ho => gq_i _ rfl h9 ho ((gq_bd (gq_u2 (gq_dr h9))).trans rfl)) (fun _ => rfl) h hi
  case getfield m => exact gq_e2 (C := .getfield) (op := 180) (fun h9 ho => gq_i _ rfl h9 ho ((gq_bd (gq_u2 (gq_dr h9))).trans rfl)) (fun _ => rfl) h hi
  case putfield m => exact gq_e2 (C := .putfield) (op := 181) (fun h9 ho => gq_i _ rfl h9 ho ((gq_bd (gq_u2 (gq_dr h9))).trans rfl)) (fun _ => rfl) h hi
  case invokevirtual m => exact gq_e2 (C := .invokevirtual) (op := 182) (fun h9 ho => gq_i _ rfl h9 ho ((gq_bd (gq_u2 (gq_dr h9))).trans rfl)) (fun _ => rfl) h hi
  case invokespecial m => exact gq_e2 (C := .invokespecial) (op := 183) (fun h9 ho => gq_i _ rfl h9 ho ((gq_bd (gq_u2 (gq_dr h9))).trans rfl)) (fun _ => rfl) h hi
  case invokestatic m => exact gq_e2 (C := .invokestatic) (op := 184) (fun h9 ho => gq_i _ rfl h9 ho ((gq_bd (gq_u2 (gq_dr h9))).trans rfl)) (fun _ => rfl) h hi
  case new m => exact gq_e2 (C := .new) (op := 187) (fun h9 ho => gq_i _ rfl h9 ho ((gq_bd (gq_u2 (gq_dr h9))).trans rfl)) (fun _ => rfl) h hi
  case anewarray m => exact gq_e2 (C := .anewarray) (op := 189) (fun h9 ho => gq_i _ rfl h9 ho ((gq_bd (gq_u2 (gq_dr h9))).trans rfl)) (fun _ => rfl) h hi
  case checkcast m => exact gq_e2 (C := .checkcast) (op := 192) (fun h9 ho => gq_i _ rfl h9 ho ((gq_bd (gq_u2 (gq_dr h9))).trans rfl)) (fun _ => rfl) h hi
  case sipush k => exact gq_f2 (C := .sipush) (op := 17) (fun h9 ho => gq_i _ rfl h9 ho ((gq_bd (gq_v2 (gq_dr h9))).trans rfl)) (fun _ => rfl) h hi
  case goto k => exact gq_f2 (C := .goto) (op := 167) (fun h9 ho => gq_i _ rfl h9 ho ((gq_bd (gq_v2 (gq_dr h9))).trans rfl)) (fun _ => rfl) h hi
  case ifnull k => exact gq_f2 (C := .ifnull) (op := 198) (fun h9 ho => gq_i _ rfl h9 ho ((gq_bd (gq_v2 (gq_dr h9))).trans rfl)) (fun _ => rfl) h hi
  case ifnonnull k => exact gq_f2 (C := .ifnonnull) (op := 199) (fun h9 ho => gq_i _ rfl h9 ho ((gq_bd (gq_v2 (gq_dr h9))).trans rfl)) (fun _ => rfl) h hi
  case ifCond c k =>
    cases c
    case eq => exact gq_f2 (C := .ifCond .eq) (op := 153) (fun h9 ho => gq_i _ rfl h9 ho ((gq_bd (gq_v2 (gq_dr h9))).trans rfl)) (fun _ => rfl) h hi
    case ne => exact gq_f2 (C := .ifCond .ne) (op := 154) (fun h9 ho => gq_i _ rfl h9 ho ((gq_bd (gq_v2 (gq_dr h9))).trans rfl)) (fun _ => rfl) h hi
    case lt => exact gq_f2 (C := .ifCond .lt) (op := 155) (fun h9 ho => gq_i _ rfl h9 ho ((gq_bd (gq_v2 (gq_dr h9))).trans rfl)) (fun _ => rfl) h hi
    case ge => exact gq_f2 (C := .ifCond .ge) (op := 156) (fun h9 ho => gq_i _ rfl h9 ho ((gq_bd (gq_v2 (gq_dr h9))).trans rfl)) (fun _ => rfl) h hi
    case gt => exact gq_f2 (C := .ifCond .gt) (op := 157) (fun h9 ho => gq_i _ rfl h9 ho ((gq_bd (gq_v2 (gq_dr h9))).trans rfl)) (fun _ => rfl) h hi
    case le => exact gq_f2 (C := .ifCond .le) (op := 158) (fun h9 ho => gq_i _ rfl h9 ho ((gq_bd (gq_v2 (gq_dr h9))).trans rfl)) (fun _ => rfl) h hi
  case if_icmp c k =>
    cases c
    case eq => exact gq_f2 (C := .if_icmp .eq) (op := 159) (fun h9 ho => gq_i _ rfl h9 ho ((gq_bd (gq_v2 (gq_dr h9))).trans rfl)) (fun _ => rfl) h hi
    case ne => exact gq_f2 (C := .if_icmp .ne) (op := 160) (fun h9 ho => gq_i _ rfl h9 ho ((gq_bd (gq_v2 (gq_dr h9))).trans rfl)) (fun _ => rfl) h hi
    case lt => exact gq_f2 (C := .if_icmp .lt) (op := 161) (fun h9 ho => gq_i _ rfl h9 ho ((gq_bd (gq_v2 (gq_dr h9))).trans rfl)) (fun _ => rfl) h hi
    case ge => exact gq_f2 (C := .if_icmp .ge) (op := 162) (fun h9 ho => gq_i _ rfl h9 ho ((gq_bd (gq_v2 (gq_dr h9))).trans rfl)) (fun _ => rfl) h hi
    case gt => exact gq_f2 (C := .if_icmp .gt) (op := 163) (fun h9 ho => gq_i _ rfl h9 ho ((gq_bd (gq_v2 (gq_dr h9))).trans rfl)) (fun _ => rfl) h hi
    case le => exact gq_f2 (C := .if_icmp .le) (op := 164) (fun h9 ho => gq_i _ rfl h9 ho ((gq_bd (gq_v2 (gq_dr h9))).trans rfl)) (fun _ => rfl) h hi
  case if_acmp c k =>
    cases c
    case eq => exact gq_f2 (C := .if_acmp .eq) (op := 165) (fun h9 ho => gq_i _ rfl h9 ho ((gq_bd (gq_v2 (gq_dr h9))).trans rfl)) (fun _ => rfl) h hi
    case ne => exact gq_f2 (C := .if_acmp .ne) (op := 166) (fun h9 ho => gq_i _ rfl h9 ho ((gq_bd (gq_v2 (gq_dr h9))).trans rfl)) (fun _ => rfl) h hi
  case iinc m k =>
    have hi' : (Nat.beq a.toNat 132 && ((Nat.beq (gq_h r) m && Nat.blt (gq_h r) 256) && (decide (Reader.signed 8 (gq_h (r.drop 1)) = k) && Nat.blt (gq_h (r.drop 1)) 256))) = true := hi
    rw [Bool.and_eq_true, Bool.and_eq_true, Bool.and_eq_true, Bool.and_eq_true, decide_eq_true_eq] at hi'
    obtain ⟨h0, ⟨h1, h2⟩, h3, h4⟩ := hi'
    obtain ⟨b, r1, rfl⟩ := gq_hc h2
    obtain ⟨c, r2, e⟩ := gq_hc h4
    have e' : r1 = c :: r2 := e
    subst e'
    have hm : b.toNat = m := Nat.eq_of_beq_eq_true h1
    have hk : Reader.signed 8 c.toNat = k := h3
    rw [← hm, ← hk]
    exact ⟨3, gq_i _ rfl h (Nat.eq_of_beq_eq_true h0) ((gq_bd (gq_u1 (gq_dr h))).trans ((gq_bd (gq_v1 (gq_dr (gq_dr h)))).trans rfl)), Or.inr rfl⟩
  all_goals exact absurd (show false = true from hi) Bool.false_ne_true
end GQD
def gq_x (l : List UInt8) (i : Instr) : Bool := match l with
  | [] => false
  | a :: r => gq_one a.toNat (gq_h r) (gq_h (r.drop 1)) i
def gq_w (l : List UInt8) (n : Nat) (L : List (Nat × Instr)) : Bool := match L with
  | [] => true
  | q :: t => Nat.ble n q.1 && (gq_x (l.drop (q.1 - n)) q.2 && gq_w (l.drop (q.1 - n)) q.1 t)
theorem gq_x_ok {cc : ByteArray} {pc : Nat} {i : Instr} (h : gq_x (cc.data.toList.drop pc) i = true) : gx_dec cc pc i := by
  cases hl : cc.data.toList.drop pc with
  | nil =>
    rw [hl] at h
    exact absurd (show false = true from h) Bool.false_ne_true
  | cons a r =>
    rw [hl] at h
    exact gq_one_ok hl h
theorem gq_wk0 {cc : ByteArray} : ∀ {L : List (Nat × Instr)} {n : Nat}, gq_w (cc.data.toList.drop n) n L = true → ∀ pc i, gq_c L pc = some i → gx_dec cc pc i
  | [], _, _, _, _, h => by cases h
  | q :: t, n, hw, pc, i, h => by
    have hw' : (Nat.ble n q.1 && (gq_x ((cc.data.toList.drop n).drop (q.1 - n)) q.2 && gq_w ((cc.data.toList.drop n).drop (q.1 - n)) q.1 t)) = true := hw
    rw [Bool.and_eq_true, Bool.and_eq_true] at hw'
    obtain ⟨h1, h2, h3⟩ := hw'
    have hn : n ≤ q.1 := Nat.le_of_ble_eq_true h1
    have ed : (cc.data.toList.drop n).drop (q.1 - n) = cc.data.toList.drop q.1 := by
      first
        | rw [List.drop_drop, show n + (q.1 - n) = q.1 from by omega]
        | rw [List.drop_drop, show q.1 - n + n = q.1 from by omega]
    rw [ed] at h2 h3
    unfold gq_c at h
    cases hb : Nat.beq q.1 pc with
    | true =>
      rw [hb] at h
      cases h
      have e : q.1 = pc := Nat.eq_of_beq_eq_true hb
      subst e
      exact gq_x_ok h2
    | false =>
      rw [hb] at h
      exact gq_wk0 h3 pc i h
theorem gq_wk {cc : ByteArray} {l : List (Nat × Instr)} (h : gq_w cc.data.toList 0 l = true) : ∀ pc i, gq_c l pc = some i → gx_dec cc pc i := gq_wk0 (n := 0) h
