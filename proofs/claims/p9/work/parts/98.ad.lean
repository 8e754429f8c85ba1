/-! THE REFERENCE'S CONSTRUCTOR as a list of items: a row is made, an int is put, a word is put. -/
abbrev gd_It : Type := (Nat × Nat × Nat × Nat × Nat × Nat) ⊕ (Nat × Nat) ⊕ (Nat × Nat × Nat × Nat)
def gd_pd (pk : Nat) : Nat := match pk with
  | 0 => 2
  | 1 => 3
  | 2 => 1
  | 3 => 2
  | _ => 3
def gd_pi (pk arg n : Nat) : Instr := match pk with
  | 0 => .bipush (n : Int)
  | 1 => .sipush (n : Int)
  | 2 => .iconst (n : Int)
  | 3 => .ldc arg
  | _ => .ldc_w arg
def gd_at (t : Nat) : ArrayType := match t with
  | 0 => .byte
  | 1 => .int
  | 2 => .long
  | _ => .boolean
def gd_nx (pc : Nat) : gd_It → Nat
  | .inl (pk, _, _, _, _, _) => pc + 1 + gd_pd pk + 2 + 3
  | .inr (.inl _) => pc + 1 + 1 + 3
  | .inr (.inr (pk, _, _, _)) => pc + 1 + gd_pd pk + 3 + 3
def gd_co : Nat → List gd_It → List (Nat × Instr)
  | _, [] => []
  | pc, .inl (pk, arg, n, t, k, ix) :: r => (pc, .aload_n 0) :: (pc + 1, gd_pi pk arg n) :: (pc + 1 + gd_pd pk, .newarray (gd_at t)) :: (pc + 1 + gd_pd pk + 2, .putfield ix) :: gd_co (pc + 1 + gd_pd pk + 2 + 3) r
  | pc, .inr (.inl (k, ix)) :: r => (pc, .aload_n 0) :: (pc + 1, .iconst (-1)) :: (pc + 1 + 1, .putfield ix) :: gd_co (pc + 1 + 1 + 3) r
  | pc, .inr (.inr (pk, arg, k, ix)) :: r => (pc, .aload_n 0) :: (pc + 1, gd_pi pk arg 0) :: (pc + 1 + gd_pd pk, .invokestatic 199) :: (pc + 1 + gd_pd pk + 3, .putfield ix) :: gd_co (pc + 1 + gd_pd pk + 3 + 3) r
def gd_end : Nat → List gd_It → Nat
  | pc, [] => pc
  | pc, x :: r => gd_end (gd_nx pc x) r
def gd_strs : List (Nat × String) := [(197, "tongue"), (207, "kind"), (212, "fun"), (217, "feature"), (222, "letters"), (227, "sound"), (232, "pattern"), (237, "word"), (241, "lin"), (246, "mean"), (251, "thing"), (256, "fact"), (261, "cost"), (266, "has"), (271, "of"), (276, "agree"), (281, "give"), (541, "and"), (546, "or"), (551, "if"), (556, "not"), (561, "all"), (566, "some"), (571, "is")]
def gd_sk : List Nat := gd_strs.map Prod.fst
def gd_byt (k : Nat) : List Int32 := match k with
  | 197 => [116, 111, 110, 103, 117, 101]
  | 207 => [107, 105, 110, 100]
  | 212 => [102, 117, 110]
  | 217 => [102, 101, 97, 116, 117, 114, 101]
  | 222 => [108, 101, 116, 116, 101, 114, 115]
  | 227 => [115, 111, 117, 110, 100]
  | 232 => [112, 97, 116, 116, 101, 114, 110]
  | 237 => [119, 111, 114, 100]
  | 241 => [108, 105, 110]
  | 246 => [109, 101, 97, 110]
  | 251 => [116, 104, 105, 110, 103]
  | 256 => [102, 97, 99, 116]
  | 261 => [99, 111, 115, 116]
  | 266 => [104, 97, 115]
  | 271 => [111, 102]
  | 276 => [97, 103, 114, 101, 101]
  | 281 => [103, 105, 118, 101]
  | 541 => [97, 110, 100]
  | 546 => [111, 114]
  | 551 => [105, 102]
  | 556 => [110, 111, 116]
  | 561 => [97, 108, 108]
  | 566 => [115, 111, 109, 101]
  | 571 => [105, 115]
  | _ => []
def gd_bt (k j : Nat) : Int32 := (gd_byt k).getD j 0
def gd_ln (k : Nat) : Nat := (gd_byt k).length
def gd_val (k : Nat) : Int64 := gd_wd (gd_ln k) (gd_bt k) 8
def gd_st : List gd_It → List gz_V × gz_Sh → List gz_V × gz_Sh
  | [], u => u
  | .inl (_, _, n, t, k, _) :: r, u => gd_st r (u.1.set k (.inr (.inr (some u.2.length))), u.2 ++ [(true, t, n)])
  | .inr (.inl (k, _)) :: r, u => gd_st r (u.1.set k (.inl (-1)), u.2)
  | .inr (.inr (_, arg, k, _)) :: r, u => gd_st r (u.1.set k (.inr (.inl (gd_val arg))), u.2)
def gd_cl : List gd_It → Nat
  | [] => 0
  | .inl _ :: r => 1 + gd_cl r
  | .inr _ :: r => gd_cl r
def gd_sl : List gd_It → Nat
  | [] => 0
  | .inl (_, _, n, _, _, _) :: r => n + gd_sl r
  | .inr _ :: r => gd_sl r
def gd_isA : FieldType → Bool
  | .array _ => true
  | _ => false
def gd_ok1 : gd_It → Bool
  | .inl (pk, _, n, t, k, _) => decide (k < 229) && (TX13 k).2.2.2 && decide ((TX13 k).1 = RX13) && gd_isA (tyX13 k) && decide (t ≤ 3) && decide (n ≤ 60000000) && decide (pk = 0 → n ≤ 127) && decide (pk = 1 → n ≤ 32767)
  | .inr (.inl (k, _)) => decide (k < 229) && !(TX13 k).2.2.2 && decide (tyX13 k = .int)
  | .inr (.inr (pk, arg, k, _)) => decide (k < 229) && (TX13 k).2.2.2 && decide ((TX13 k).1 = RX13) && decide (tyX13 k = .long) && decide (pk = 3 ∨ pk = 4) && decide (arg ∈ gd_sk)
def gd_lk : gd_It → Cond
  | .inl (_, _, _, _, k, ix) => Cond.fieldLink RX13 ix (TX13 k).1 (TX13 k).2.1 (TX13 k).2.2.1
  | .inr (.inl (k, ix)) => Cond.fieldLink RX13 ix (TX13 k).1 (TX13 k).2.1 (TX13 k).2.2.1
  | .inr (.inr (_, _, k, ix)) => Cond.fieldLink RX13 ix (TX13 k).1 (TX13 k).2.1 (TX13 k).2.2.1
def gd_cn : gd_It → List Cond
  | .inl (pk, arg, n, _, _, _) => if 3 ≤ pk then [Cond.constant RX13 arg (Int32.ofInt (n : Int))] else []
  | .inr _ => []
def gd_H (F : List gz_V) (sh : gz_Sh) : gz_H := fun a k => match a with
  | 0 => F.getD k (.inl 0)
  | a + 1 => if (sh.getD (a + 1) (true, 0, 0)).2.1 = 2 then .inr (.inl 0) else .inl 0
def gd_J (F : List gz_V) (sh : gz_Sh) : Prop := F.length = 229 ∧ sh[0]? = some (false, 13, 229) ∧ (∀ v ∈ F, gz_okv sh.length v) ∧ sh.length < 1000
theorem gd_J.pos {F : List gz_V} {sh : gz_Sh} (h : gd_J F sh) : 0 < sh.length := by
  have := (List.getElem?_eq_some_iff.mp h.2.1).1
  omega
theorem gd_J.wf {F : List gz_V} {sh : gz_Sh} (h : gd_J F sh) : gz_wf sh (gd_H F sh) := fun i _ k => by
  cases i with
  | zero =>
    show gz_okv sh.length (F.getD k (.inl 0))
    rw [List.getD_eq_getElem?_getD]
    cases hk : F[k]? with
    | none => trivial
    | some v => exact h.2.2.1 v (List.mem_of_getElem? hk)
  | succ a =>
    show gz_okv sh.length (if (sh.getD (a + 1) (true, 0, 0)).2.1 = 2 then .inr (.inl 0) else .inl 0)
    split <;> trivial
theorem gd_J.set {F : List gz_V} {sh : gz_Sh} (h : gd_J F sh) {k : Nat} {v : gz_V} (hv : gz_okv sh.length v) : gd_J (F.set k v) sh := by
  refine ⟨by rw [List.length_set]; exact h.1, h.2.1, fun w hw => ?_, h.2.2.2⟩
  rcases List.mem_or_eq_of_mem_set hw with h1 | h1
  · exact h.2.2.1 w h1
  · rw [h1]; exact hv
theorem gd_okv_mono {n m : Nat} {v : gz_V} (h : gz_okv n v) (hn : n ≤ m) : gz_okv m v := gz_okv_le h hn
theorem gd_J.push {F : List gz_V} {sh : gz_Sh} (h : gd_J F sh) {x : Bool × Nat × Nat} (hl : sh.length + 1 < 1000) : gd_J F (sh ++ [x]) := by
  have hp := h.pos
  refine ⟨h.1, by rw [List.getElem?_append_left hp]; exact h.2.1, fun v hv => gd_okv_mono (h.2.2.1 v hv) (by rw [List.length_append]; omega), by rw [List.length_append]; exact hl⟩
theorem gd_H_set {F : List gz_V} {sh : gz_Sh} {k : Nat} {v : gz_V} (hk : k < F.length) : gz_up (gd_H F sh) 0 k v = gd_H (F.set k v) sh := by
  funext a j
  unfold gz_up
  cases a with
  | zero =>
    rw [if_pos rfl]
    show _ = (F.set k v).getD j (.inl 0)
    by_cases hj : j = k
    · subst hj
      rw [if_pos rfl, List.getD_eq_getElem?_getD, List.getElem?_set_self hk]
      rfl
    · rw [if_neg hj, List.getD_eq_getElem?_getD, List.getElem?_set_ne (fun e => hj e.symm)]
      show F.getD j _ = _
      rw [List.getD_eq_getElem?_getD]
  | succ a =>
    rw [if_neg (Nat.succ_ne_zero a)]
    rfl
theorem gd_H_old {F : List gz_V} {sh : gz_Sh} {x : Bool × Nat × Nat} {i : Nat} (hi : i < sh.length) : gd_H F (sh ++ [x]) i = gd_H F sh i := by
  funext k
  cases i with
  | zero => rfl
  | succ a =>
    show (if ((sh ++ [x]).getD (a + 1) (true, 0, 0)).2.1 = 2 then _ else _) = (if (sh.getD (a + 1) (true, 0, 0)).2.1 = 2 then _ else _)
    rw [List.getD_eq_getElem?_getD, List.getElem?_append_left hi, List.getD_eq_getElem?_getD]
theorem gd_H_new {F : List gz_V} {sh : gz_Sh} {t n : Nat} (hp : 0 < sh.length) (k : Nat) : gd_H F (sh ++ [(true, t, n)]) sh.length k = if t = 2 then .inr (.inl 0) else .inl 0 := by
  obtain ⟨a, ha⟩ : ∃ a, sh.length = a + 1 := ⟨sh.length - 1, by omega⟩
  rw [ha]
  show (if ((sh ++ [(true, t, n)]).getD (a + 1) (true, 0, 0)).2.1 = 2 then _ else _) = _
  rw [← ha, List.getD_eq_getElem?_getD, List.getElem?_append_right (Nat.le_refl _), Nat.sub_self]
  rfl
theorem gd_chk {cc : ByteArray} {q : Nat × Instr} {t : List (Nat × Instr)} (h : gq_chk cc (q :: t) = true) : gx_dec cc q.1 q.2 ∧ gq_chk cc t = true := by
  refine ⟨gq_ok h q.1 q.2 ?_, ?_⟩
  · unfold gq_c
    rw [show Nat.beq q.1 q.1 = true from Nat.beq_refl q.1]
    rfl
  · unfold gq_chk at h
    rw [Bool.and_eq_true] at h
    exact h.2
def gd_w0 : List Cond := [Cond.code yX13_word cX13_word 4 (some .long), Cond.methodLink RX13 199 yX13_word, Cond.static yX13_word, Cond.initialized RX13, Cond.methodLink RX13 9 objectInit, Cond.instanceMethod objectInit, Cond.code objectInit ⟨#[0xb1]⟩ 1 none, Cond.arrayClass .byte, Cond.arrayClass .int, Cond.arrayClass .long, Cond.arrayClass .boolean]
def gd_i0 : List gd_It := [.inr (.inl (6, 15)), .inl (0, 0, 8, 2, 7, 18), .inl (0, 0, 32, 2, 8, 22), .inl (0, 0, 96, 2, 9, 25), .inl (0, 0, 8, 2, 10, 28), .inl (0, 0, 64, 2, 11, 31), .inl (0, 0, 96, 1, 12, 34), .inl (1, 0, 384, 1, 13, 38), .inl (0, 0, 96, 1, 14, 41), .inl (0, 0, 96, 1, 15, 44), .inl (0, 0, 96, 1, 16, 47), .inl (0, 0, 64, 1, 17, 50), .inl (0, 0, 64, 1, 18, 53), .inl (0, 0, 8, 1, 19, 56)]
def gd_i1 : List gd_It := [.inl (0, 0, 8, 1, 20, 59), .inl (0, 0, 8, 1, 21, 62), .inl (0, 0, 8, 1, 22, 65), .inl (0, 0, 8, 1, 23, 68), .inl (0, 0, 8, 1, 24, 71), .inl (0, 0, 8, 1, 25, 74), .inl (0, 0, 64, 2, 26, 77), .inl (1, 0, 384, 2, 27, 80), .inl (1, 0, 128, 2, 28, 83), .inl (1, 0, 192, 2, 29, 86), .inl (1, 0, 384, 1, 30, 89), .inl (1, 0, 384, 1, 31, 92), .inl (1, 0, 128, 1, 32, 95), .inl (1, 0, 192, 1, 33, 98)]
def gd_i2 : List gd_It := [.inl (1, 0, 192, 1, 34, 101), .inl (1, 0, 576, 1, 35, 104), .inl (1, 0, 576, 1, 36, 107), .inl (1, 0, 192, 1, 37, 110), .inl (1, 0, 4608, 1, 38, 113), .inl (1, 0, 4608, 1, 39, 116), .inl (1, 0, 4608, 1, 40, 119), .inl (3, 122, 42000, 1, 41, 123), .inl (1, 0, 512, 1, 43, 126), .inl (1, 0, 512, 1, 44, 129), .inl (1, 0, 1536, 1, 45, 132), .inl (1, 0, 512, 1, 46, 135), .inl (1, 0, 512, 1, 47, 138), .inl (1, 0, 3072, 1, 48, 141)]
def gd_i3 : List gd_It := [.inl (1, 0, 3072, 1, 49, 144), .inl (1, 0, 18432, 1, 50, 147), .inl (1, 0, 18432, 1, 51, 150), .inl (1, 0, 3072, 1, 52, 153), .inl (1, 0, 18432, 1, 53, 156), .inl (1, 0, 18432, 1, 54, 159), .inl (1, 0, 18432, 1, 55, 162), .inl (1, 0, 18432, 1, 56, 165), .inl (1, 0, 3072, 1, 57, 168), .inl (3, 171, 82000, 0, 58, 172), .inl (1, 0, 5000, 1, 60, 176), .inl (1, 0, 5000, 1, 61, 179), .inl (1, 0, 5000, 1, 62, 182), .inl (1, 0, 5000, 2, 63, 185)]
def gd_i4 : List gd_It := [.inl (1, 0, 1000, 0, 65, 188), .inl (1, 0, 1000, 0, 66, 191), .inl (1, 0, 1000, 0, 67, 194), .inr (.inr (3, 197, 80, 203)), .inr (.inr (3, 207, 81, 209)), .inr (.inr (3, 212, 82, 214)), .inr (.inr (3, 217, 83, 219)), .inr (.inr (3, 222, 84, 224)), .inr (.inr (3, 227, 85, 229)), .inr (.inr (3, 232, 86, 234)), .inr (.inr (3, 237, 87, 238)), .inr (.inr (3, 241, 88, 243)), .inr (.inr (3, 246, 89, 248)), .inr (.inr (3, 251, 90, 253))]
def gd_i5 : List gd_It := [.inr (.inr (4, 256, 91, 258)), .inr (.inr (4, 261, 92, 263)), .inr (.inr (4, 266, 93, 268)), .inr (.inr (4, 271, 94, 273)), .inr (.inr (4, 276, 95, 278)), .inr (.inr (4, 281, 96, 283)), .inl (0, 0, 80, 1, 97, 286), .inl (1, 0, 1000, 1, 98, 289), .inl (2, 0, 4, 1, 102, 292), .inl (0, 0, 6, 2, 103, 295), .inl (0, 0, 6, 1, 105, 298), .inl (1, 0, 420, 1, 107, 301), .inl (1, 0, 420, 1, 108, 304), .inl (1, 0, 420, 1, 109, 307)]
def gd_i6 : List gd_It := [.inl (2, 0, 3, 1, 110, 310), .inl (0, 0, 6, 1, 111, 313), .inl (0, 0, 6, 1, 112, 316), .inl (0, 0, 6, 1, 113, 319), .inl (0, 0, 6, 1, 114, 322), .inl (0, 0, 6, 1, 115, 325), .inl (0, 0, 6, 1, 116, 328), .inl (2, 0, 4, 1, 117, 331), .inl (0, 0, 48, 2, 121, 334), .inl (0, 0, 64, 0, 124, 337), .inl (0, 0, 64, 0, 125, 340), .inr (.inl (127, 343)), .inr (.inl (128, 346)), .inl (4, 349, 36864, 0, 129, 350)]
def gd_i7 : List gd_It := [.inl (1, 0, 1536, 1, 130, 353), .inl (1, 0, 1536, 1, 131, 356), .inl (0, 0, 24, 1, 134, 359), .inl (0, 0, 24, 1, 135, 362), .inl (1, 0, 576, 0, 139, 365), .inl (1, 0, 576, 0, 140, 368), .inl (0, 0, 24, 1, 141, 371), .inl (0, 0, 24, 1, 142, 374), .inl (1, 0, 3000, 1, 144, 377), .inl (1, 0, 3000, 1, 145, 380), .inl (1, 0, 3000, 1, 146, 383), .inl (1, 0, 3000, 1, 147, 386), .inl (1, 0, 3001, 1, 148, 389), .inl (1, 0, 3000, 1, 149, 392)]
def gd_i8 : List gd_It := [.inl (1, 0, 20000, 1, 150, 395), .inl (1, 0, 9000, 1, 151, 398), .inl (1, 0, 9000, 1, 152, 401), .inl (1, 0, 9000, 1, 153, 404), .inl (1, 0, 9000, 1, 154, 407), .inl (4, 410, 36000, 1, 155, 411), .inl (1, 0, 9000, 1, 156, 414), .inl (2, 0, 4, 1, 162, 417), .inl (2, 0, 4, 1, 163, 420), .inl (2, 0, 4, 1, 164, 423), .inl (0, 0, 6, 1, 165, 426), .inl (1, 0, 3000, 2, 171, 429), .inl (1, 0, 3000, 1, 172, 432), .inl (4, 435, 48000, 1, 173, 436)]
def gd_i9 : List gd_It := [.inl (4, 435, 48000, 1, 174, 439), .inl (4, 435, 48000, 1, 175, 442), .inl (0, 0, 96, 3, 176, 445), .inr (.inl (177, 449)), .inl (0, 0, 16, 1, 183, 452), .inl (0, 0, 16, 1, 184, 455), .inl (0, 0, 16, 1, 185, 458), .inl (1, 0, 2000, 1, 187, 461), .inl (1, 0, 480, 1, 189, 464), .inl (0, 0, 8, 1, 190, 467), .inl (4, 470, 288000, 0, 191, 471), .inl (1, 0, 1440, 1, 192, 474), .inl (1, 0, 1440, 1, 193, 477), .inl (1, 0, 1440, 1, 194, 480)]
def gd_i10 : List gd_It := [.inl (1, 0, 1440, 1, 195, 483), .inl (0, 0, 60, 1, 196, 486), .inl (1, 0, 240, 1, 197, 489), .inl (0, 0, 6, 1, 198, 492), .inl (1, 0, 3200, 0, 199, 495), .inl (0, 0, 16, 1, 200, 498), .inl (4, 501, 57600, 0, 202, 502), .inl (0, 0, 100, 1, 203, 505), .inl (0, 0, 100, 1, 204, 508), .inl (1, 0, 2400, 1, 205, 511), .inl (0, 0, 8, 1, 207, 514), .inl (0, 0, 8, 1, 208, 517), .inl (1, 0, 2400, 1, 209, 520), .inl (1, 0, 2400, 1, 210, 523)]
def gd_i11 : List gd_It := [.inl (1, 0, 2000, 1, 212, 526), .inl (1, 0, 2000, 1, 213, 529), .inl (1, 0, 2000, 1, 214, 532), .inl (1, 0, 2000, 2, 215, 535), .inl (1, 0, 400, 1, 219, 538), .inr (.inr (4, 541, 222, 543)), .inr (.inr (4, 546, 223, 548)), .inr (.inr (4, 551, 224, 553)), .inr (.inr (4, 556, 225, 558)), .inr (.inr (4, 561, 226, 563)), .inr (.inr (4, 566, 227, 568)), .inr (.inr (4, 571, 228, 573))]
def gd_it : List gd_It := gd_i0 ++ (gd_i1 ++ (gd_i2 ++ (gd_i3 ++ (gd_i4 ++ (gd_i5 ++ (gd_i6 ++ (gd_i7 ++ (gd_i8 ++ (gd_i9 ++ (gd_i10 ++ (gd_i11)))))))))))
def gd_ws : List Cond := gd_w0 ++ (gd_jw ++ (gd_it.map gd_lk ++ (gd_it.flatMap gd_cn ++ u_ws RX13 TX13 229)))
theorem gd_wl {w : Cond} (h : w ∈ gd_w0) : w ∈ gd_ws := List.mem_append_left _ h
theorem gd_wj {w : Cond} (h : w ∈ gd_jw) : w ∈ gd_ws := List.mem_append_right _ (List.mem_append_left _ h)
theorem gd_wk {x : gd_It} (h : x ∈ gd_it) : gd_lk x ∈ gd_ws := List.mem_append_right _ (List.mem_append_right _ (List.mem_append_left _ (List.mem_map.mpr ⟨x, h, rfl⟩)))
theorem gd_wc {x : gd_It} {w : Cond} (h : x ∈ gd_it) (hw : w ∈ gd_cn x) : w ∈ gd_ws := List.mem_append_right _ (List.mem_append_right _ (List.mem_append_right _ (List.mem_append_left _ (List.mem_flatMap.mpr ⟨x, h, hw⟩))))
theorem gd_wu : ∀ w ∈ u_ws RX13 TX13 229, w ∈ gd_ws := fun w h => List.mem_append_right _ (List.mem_append_right _ (List.mem_append_right _ (List.mem_append_right _ h)))
/-- the texts that the constructor names -/
def gd_X (qa va : Nat → Nat) (A : Nat → Prop) (U : State) (H : Heap) : Prop := ∀ x ∈ gd_strs, vk_R RX13 x.1 x.2 (qa x.1) U ∧ py_S (qa x.1) (va x.1) (gd_ln x.1) (gd_bt x.1) A U H
theorem gd_X.to {qa va : Nat → Nat} {A Aₚ : Nat → Prop} {s U : State} {H H1 : Heap} (hW : s.WarmedH U.vm) (hk : ∀ q : Nat, q < H.size → ¬ A q → H1[q]? = H[q]?) (hA : ∀ q, Aₚ q → A q) (h : gd_X qa va A s H) : gd_X qa va Aₚ U H1 := fun x hx => ⟨(h x hx).1.warm hW, (h x hx).2.to hW.alike hk hA⟩
def gd_Pc (D : va_G) (cy : Nat → ClassId) (qa va : Nat → Nat) (av : List Value) (sz : Nat) (L : List Nat) (f : Nat → va_E) : Array Value → State → Prop :=
  va_Pc av (fun U => U.heap.size = sz ∧ pw_G D cy U ∧ (gd_X qa va (pw_A L f sz) U U.heap ∧ va_Nw (.castable "[B" "java/lang/Cloneable") U) ∧ va_P D vwCl (va_pl L f) U.heap ∧ va_D (fun _ => True) (va_pl L f))
theorem gd_blind {D : va_G} {cy : Nat → ClassId} {qa va : Nat → Nat} {av : List Value} {sz : Nat} {L : List Nat} {f : Nat → va_E} : FrameBlind (gd_Pc D cy qa va av sz L f) := by
  intro a U g mk h
  obtain ⟨q0, q1, qG, qX, qP, qD⟩ := h
  refine ⟨q0, q1, pw_G.same (s := U) (U := U.calling g mk a) rfl qG, ⟨fun x hx => ?_, va_Nw.same (u := U) rfl rfl qX.2⟩, qP, qD⟩
  obtain ⟨h1, h2⟩ := qX.1 x hx
  exact ⟨h1.same rfl, h2.to (s := U) (U := U.calling g mk a) (Vm.Alike.refl U.vm) (fun _ _ _ => rfl) (fun _ h => h)⟩
theorem gd_pre {D : va_G} {cy : Nat → ClassId} {qa va : Nat → Nat} {s : State} {A : Nat → Prop} {L : List Nat} {f : Nat → va_E} {H : Heap} {locs : List Loc} {av : List Value} (hG : pw_G D cy s) (hZ : gd_X qa va A s s.heap) (hC : va_Nw (.castable "[B" "java/lang/Cloneable") s) (hw : pw_W D A s.heap L f H locs) : PreS s H (gd_Pc D cy qa va av H.size L f) av :=
  ⟨gd_blind, fun U hU hW => ⟨rfl, by rw [hU], hG.warm hW, ⟨hZ.to hW (fun a h1 h2 => by rw [hU]; exact hw.2.2.1.2.1 a h1 h2) (pq_sub hw), va_Nw.warmC hW hC⟩, by rw [hU]; exact hw.1, hw.2.1.weaken (fun _ _ _ _ => trivial)⟩⟩
theorem gd_co_app : ∀ (a b : List gd_It) (pc : Nat), gd_co pc (a ++ b) = gd_co pc a ++ gd_co (gd_end pc a) b
  | [], _, _ => rfl
  | .inl (pk, arg, n, t, k, ix) :: r, b, pc => congrArg (fun z => (pc, Instr.aload_n 0) :: (pc + 1, gd_pi pk arg n) :: (pc + 1 + gd_pd pk, .newarray (gd_at t)) :: (pc + 1 + gd_pd pk + 2, .putfield ix) :: z) (gd_co_app r b _)
  | .inr (.inl (k, ix)) :: r, b, pc => congrArg (fun z => (pc, Instr.aload_n 0) :: (pc + 1, Instr.iconst (-1)) :: (pc + 1 + 1, .putfield ix) :: z) (gd_co_app r b _)
  | .inr (.inr (pk, arg, k, ix)) :: r, b, pc => congrArg (fun z => (pc, Instr.aload_n 0) :: (pc + 1, gd_pi pk arg 0) :: (pc + 1 + gd_pd pk, .invokestatic 199) :: (pc + 1 + gd_pd pk + 3, .putfield ix) :: z) (gd_co_app r b _)
theorem gd_chk_app {cc : ByteArray} : ∀ {a b : List (Nat × Instr)}, gq_chk cc a = true → gq_chk cc b = true → gq_chk cc (a ++ b) = true
  | [], _, _, h => h
  | q :: a, b, h1, h2 => by
    show gq_chk cc (q :: (a ++ b)) = true
    unfold gq_chk at h1 ⊢
    rw [Bool.and_eq_true] at h1 ⊢
    exact ⟨h1.1, gd_chk_app h1.2 h2⟩
theorem gd_chk2 {cc : ByteArray} {a b : List gd_It} {pc pc1 : Nat} (h1 : gq_chk cc (gd_co pc a) = true) (he : gd_end pc a = pc1) (h2 : gq_chk cc (gd_co pc1 b) = true) : gq_chk cc (gd_co pc (a ++ b)) = true := by
  rw [gd_co_app, he]
  exact gd_chk_app h1 h2
theorem gd_ic0 : gq_chk cX13_init (gd_co 4 gd_i0) = true := by decide +kernel
theorem gd_ic1 : gq_chk cX13_init (gd_co 114 gd_i1) = true := by decide +kernel
theorem gd_ic2 : gq_chk cX13_init (gd_co 233 gd_i2) = true := by decide +kernel
theorem gd_ic3 : gq_chk cX13_init (gd_co 358 gd_i3) = true := by decide +kernel
theorem gd_ic4 : gq_chk cX13_init (gd_co 483 gd_i4) = true := by decide +kernel
theorem gd_ic5 : gq_chk cX13_init (gd_co 609 gd_i5) = true := by decide +kernel
theorem gd_ic6 : gq_chk cX13_init (gd_co 736 gd_i6) = true := by decide +kernel
theorem gd_ic7 : gq_chk cX13_init (gd_co 841 gd_i7) = true := by decide +kernel
theorem gd_ic8 : gq_chk cX13_init (gd_co 963 gd_i8) = true := by decide +kernel
theorem gd_ic9 : gq_chk cX13_init (gd_co 1082 gd_i9) = true := by decide +kernel
theorem gd_ic10 : gq_chk cX13_init (gd_co 1199 gd_i10) = true := by decide +kernel
theorem gd_ic11 : gq_chk cX13_init (gd_co 1318 gd_i11) = true := by decide +kernel
set_option maxRecDepth 100000 in
theorem gd_itc : gq_chk cX13_init (gd_co 4 gd_it) = true := gd_chk2 gd_ic0 rfl (gd_chk2 gd_ic1 rfl (gd_chk2 gd_ic2 rfl (gd_chk2 gd_ic3 rfl (gd_chk2 gd_ic4 rfl (gd_chk2 gd_ic5 rfl (gd_chk2 gd_ic6 rfl (gd_chk2 gd_ic7 rfl (gd_chk2 gd_ic8 rfl (gd_chk2 gd_ic9 rfl (gd_chk2 gd_ic10 rfl (gd_ic11)))))))))))
set_option maxRecDepth 100000 in
theorem gd_ito : ∀ x ∈ gd_it, gd_ok1 x = true := List.all_eq_true.mp (by decide +kernel)
theorem gd_good0 : (gd_w0 ++ (gd_jw ++ (gd_it.map gd_lk ++ (gd_it.flatMap gd_cn ++ u_ws RX13 TX13 229)))).all goodWord = true := by decide +kernel
theorem gd_good : ∀ w ∈ gd_ws, goodWord w = true := List.all_eq_true.mp gd_good0
