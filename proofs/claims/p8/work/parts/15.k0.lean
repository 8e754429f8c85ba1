/-! CODE AS LISTS: the reference. -/
def gq_c (l : List (Nat × Instr)) (pc : Nat) : Option Instr := match l with
  | [] => none
  | q :: t => cond (Nat.beq q.1 pc) (some q.2) (gq_c t pc)
def gq_chk (cc : ByteArray) : List (Nat × Instr) → Bool
  | [] => true
  | q :: t => (match decode cc q.1 with
    | .ok (j, len) => decide (j = q.2) && (gx_sw j || gx_len j == len)
    | _ => false) && gq_chk cc t
theorem gq_ok {cc : ByteArray} : ∀ {l : List (Nat × Instr)}, gq_chk cc l = true → ∀ pc i, gq_c l pc = some i → gx_dec cc pc i
  | [], _, _, _, h => by cases h
  | q :: t, hc, pc, i, h => by
    unfold gq_chk at hc
    rw [Bool.and_eq_true] at hc
    unfold gq_c at h
    cases hb : Nat.beq q.1 pc with
    | true =>
      rw [hb] at h
      cases h
      have e : q.1 = pc := Nat.eq_of_beq_eq_true hb
      subst e
      have h1 := hc.1
      split at h1
      · rename_i j len hd
        rw [Bool.and_eq_true, decide_eq_true_eq, Bool.or_eq_true, beq_iff_eq] at h1
        obtain ⟨rfl, h2⟩ := h1
        exact ⟨len, hd, h2⟩
      · cases h1
    | false =>
      rw [hb] at h
      exact gq_ok hc.2 pc i h
theorem gq_cd {cc : ByteArray} {t : Nat} {f g : Nat → Option Instr} (hf : ∀ pc i, f pc = some i → gx_dec cc pc i) (hg : ∀ pc i, g pc = some i → gx_dec cc pc i) : ∀ pc i, cond (Nat.blt pc t) (f pc) (g pc) = some i → gx_dec cc pc i := fun pc i h => by
  cases hb : Nat.blt pc t with
  | true => rw [hb] at h; exact hf pc i h
  | false => rw [hb] at h; exact hg pc i h
theorem gq_of {cc : ByteArray} {k : Nat → Option Instr} (h : ∀ pc i, k pc = some i → gx_dec cc pc i) : ∀ pc i, k pc = some i → gx_dec cc pc i := h
