theorem gc_mulb {x y : Int} (hx : 1 ≤ x ∧ x ≤ 32) (hy : 1 ≤ y ∧ y ≤ 32) : 1 ≤ x * y ∧ x * y ≤ 1024 := by
  have h1 : 1 * 1 ≤ x * y := Int.mul_le_mul hx.1 hy.1 (by omega) (by omega)
  have h2 : x * y ≤ 32 * 32 := Int.mul_le_mul hx.2 hy.2 (by omega) (by omega)
  omega
def gc_ws (σ : Nat → Int) (I : gr_I) (k : Nat) : Int := if 0 ≤ I 54 k then 0 else σ (Int.toNat (-1 - I 54 k))
theorem gc_ws_fr {σ : Nat → Int} {I Iₚ : gr_I} {k : Nat} (r : ∀ k, Iₚ 54 k = I 54 k) : gc_ws σ Iₚ k = gc_ws σ I k := by
  unfold gc_ws
  rw [r]
theorem gc_sl_ws {sh : gz_Sh} {ro : Nat → Nat} {A : gc_A} {t k : Nat} {σ : Nat → Int} {I : gr_I} (hL : gc_Ls sh ro A t I) (hW : gc_WV t I) (hS : ∀ i q : Nat, (i : Int) < I t 13 → A (t + 16) i = some q → I q 8 = σ i) (hk : (k : Int) < I 48 6) : gc_sl A I t k = gc_ws σ I k := by
  unfold gc_ws
  by_cases h : 0 ≤ I 54 k
  · rw [if_pos h, gc_sl_0 h]
  · rw [if_neg h]
    have h1 := (hW k hk).resolve_left h
    obtain ⟨q, h2, -, -, -, -⟩ := hL (Int.toNat (-1 - I 54 k)) (by omega)
    rw [gc_sl_1 (by omega) h2]
    exact hS _ q (by omega) h2
def gc_dg (z : Int) : Nat → Int
  | 0 => z % 16
  | 1 => z / 16 % 16
  | 2 => z / 256 % 16
  | 3 => z / 4096 % 16
  | _ => 0
def gc_pw : Nat → Int
  | 0 => 1
  | 1 => 16
  | 2 => 256
  | 3 => 4096
  | _ => 65536
theorem gc_nn {x : Int} (h : 0 ≤ x ∧ x ≤ 2147483647) : (Int32.ofInt x).toBitVec.toNat = x.toNat := by
  have e2 : ((Int32.ofInt x).toBitVec).toInt = x := gz_toInt ⟨by omega, by omega⟩
  have hm : (Int32.ofInt x).toBitVec.msb = false := by
    rw [BitVec.msb_eq_toInt, e2]
    simp only [decide_eq_false_iff_not]
    omega
  have h9 := BitVec.toInt_eq_toNat_of_msb hm
  rw [e2] at h9
  omega
theorem gc_orp {a b : Int} (k : Nat) (ha : 0 ≤ a ∧ a < ((2 ^ k : Nat) : Int)) (hb : 0 ≤ b) (hs : a + b * ((2 ^ k : Nat) : Int) ≤ 2147483647) (h0 : b * ((2 ^ k : Nat) : Int) ≤ 2147483647) (h1 : a ≤ 2147483647) : (Int32.ofInt a ||| Int32.ofInt (b * ((2 ^ k : Nat) : Int))).toInt = a + b * ((2 ^ k : Nat) : Int) := by
  have hc : 0 ≤ b * ((2 ^ k : Nat) : Int) := Int.mul_nonneg hb (by omega)
  have e : (Int32.ofInt a ||| Int32.ofInt (b * ((2 ^ k : Nat) : Int))).toBitVec.toNat = a.toNat ||| (b * ((2 ^ k : Nat) : Int)).toNat := by
    show ((Int32.ofInt a).toBitVec ||| (Int32.ofInt (b * ((2 ^ k : Nat) : Int))).toBitVec).toNat = _
    rw [BitVec.toNat_or, gc_nn ⟨ha.1, h1⟩, gc_nn ⟨hc, h0⟩]
  have e2 : (b * ((2 ^ k : Nat) : Int)).toNat = b.toNat <<< k := by
    rw [Nat.shiftLeft_eq]
    have h9 : ((b.toNat * 2 ^ k : Nat) : Int) = b * ((2 ^ k : Nat) : Int) := by
      rw [Int.natCast_mul, Int.toNat_of_nonneg hb]
    omega
  have e3 : a.toNat ||| b.toNat <<< k = b.toNat <<< k + a.toNat := by
    rw [Nat.or_comm, Nat.shiftLeft_add_eq_or_of_lt (by omega)]
  rw [e2, e3, ← e2] at e
  show ((Int32.ofInt a ||| Int32.ofInt (b * ((2 ^ k : Nat) : Int))).toBitVec).toInt = _
  rw [BitVec.toInt_eq_toNat_of_lt (by omega)]
  omega
theorem gc_shl4 {r s : Int} (hr : 0 ≤ r ∧ r ≤ 15) (hs : 0 ≤ s ∧ s ≤ 3) : (Int32.ofInt r <<< (Int32.ofInt (4 * s) &&& 31)).toInt = r * gc_pw (Int.toNat s) := by
  have key : ∀ a : Fin 16, ∀ b : Fin 4, (Int32.ofInt (a.val : Int) <<< (Int32.ofInt (4 * (b.val : Int)) &&& 31)).toInt = (a.val : Int) * gc_pw b.val := by decide +kernel
  have h := key ⟨r.toNat, by omega⟩ ⟨s.toNat, by omega⟩
  have e1 : ((r.toNat : Nat) : Int) = r := by omega
  have e2 : ((s.toNat : Nat) : Int) = s := by omega
  dsimp only at h
  rw [e1, e2] at h
  exact h
theorem gc_orsh {a r s : Int} (ha : 0 ≤ a ∧ a < gc_pw (Int.toNat s)) (hr : 0 ≤ r ∧ r ≤ 15) (hs : 0 ≤ s ∧ s ≤ 3) : (Int32.ofInt a ||| Int32.ofInt ((Int32.ofInt r <<< (Int32.ofInt (4 * s) &&& 31)).toInt)).toInt = a + r * gc_pw (Int.toNat s) := by
  rw [gc_shl4 hr hs]
  rcases (show s = 0 ∨ s = 1 ∨ s = 2 ∨ s = 3 from by omega) with rfl | rfl | rfl | rfl
  · have ha : 0 ≤ a ∧ a < 1 := ha
    exact gc_orp 0 ha hr.1 (show a + r * 1 ≤ _ from by omega) (show r * 1 ≤ _ from by omega) (by omega)
  · have ha : 0 ≤ a ∧ a < 16 := ha
    exact gc_orp 4 ha hr.1 (show a + r * 16 ≤ _ from by omega) (show r * 16 ≤ _ from by omega) (by omega)
  · have ha : 0 ≤ a ∧ a < 256 := ha
    exact gc_orp 8 ha hr.1 (show a + r * 256 ≤ _ from by omega) (show r * 256 ≤ _ from by omega) (by omega)
  · have ha : 0 ≤ a ∧ a < 4096 := ha
    exact gc_orp 12 ha hr.1 (show a + r * 4096 ≤ _ from by omega) (show r * 4096 ≤ _ from by omega) (by omega)
def gc_RK (w sl rk : Int) (I : gr_I) : Prop := 0 ≤ rk ∧ rk < gc_pw (Int.toNat sl) ∧ ∀ s : Int, 0 ≤ s → s < sl → gc_dg rk (Int.toNat s) < I 67 (Int.toNat (I 55 (Int.toNat (w * 4 + s))))
theorem gc_RK_mo {w sl rk : Int} {I Iₚ : gr_I} (h : gc_RK w sl rk I) (r5 : ∀ k, Iₚ 55 k = I 55 k) (h7 : ∀ k, I 67 k ≤ Iₚ 67 k) : gc_RK w sl rk Iₚ := ⟨h.1, h.2.1, fun s h0 h1 => by
  rw [r5]
  have h2 := h.2.2 s h0 h1
  have h3 := h7 (Int.toNat (I 55 (Int.toNat (w * 4 + s))))
  omega⟩
theorem gc_RK_nx {w sl rk r : Int} {I : gr_I} (h : gc_RK w sl rk I) (hs : 0 ≤ sl ∧ sl ≤ 3) (hr : 0 ≤ r ∧ r ≤ 15) (hz : r < I 67 (Int.toNat (I 55 (Int.toNat (w * 4 + sl))))) : gc_RK w (sl + 1) ((Int32.ofInt rk ||| Int32.ofInt ((Int32.ofInt r <<< (Int32.ofInt (4 * sl) &&& 31)).toInt)).toInt) I := by
  obtain ⟨h1, h2, h3⟩ := h
  rw [gc_orsh ⟨h1, h2⟩ hr hs]
  rcases (show sl = 0 ∨ sl = 1 ∨ sl = 2 ∨ sl = 3 from by omega) with rfl | rfl | rfl | rfl
  · have h2 : rk < 1 := h2
    refine ⟨show 0 ≤ rk + r * 1 from by omega, show rk + r * 1 < 16 from by omega, fun s h4 h5 => ?_⟩
    have e : s = 0 := by omega
    subst e
    have e2 : gc_dg (rk + r * gc_pw (Int.toNat 0)) (Int.toNat 0) = r := (show (rk + r * 1) % 16 = r from by omega)
    rw [e2]; exact hz
  · have h2 : rk < 16 := h2
    refine ⟨show 0 ≤ rk + r * 16 from by omega, show rk + r * 16 < 256 from by omega, fun s h4 h5 => ?_⟩
    rcases (show s = 0 ∨ s = 1 from by omega) with rfl | rfl
    · have e2 : gc_dg (rk + r * gc_pw (Int.toNat 1)) (Int.toNat 0) = gc_dg rk (Int.toNat 0) := (show (rk + r * 16) % 16 = rk % 16 from by omega)
      rw [e2]; exact h3 0 (by omega) (by omega)
    · have e2 : gc_dg (rk + r * gc_pw (Int.toNat 1)) (Int.toNat 1) = r := (show (rk + r * 16) / 16 % 16 = r from by omega)
      rw [e2]; exact hz
  · have h2 : rk < 256 := h2
    refine ⟨show 0 ≤ rk + r * 256 from by omega, show rk + r * 256 < 4096 from by omega, fun s h4 h5 => ?_⟩
    rcases (show s = 0 ∨ s = 1 ∨ s = 2 from by omega) with rfl | rfl | rfl
    · have e2 : gc_dg (rk + r * gc_pw (Int.toNat 2)) (Int.toNat 0) = gc_dg rk (Int.toNat 0) := (show (rk + r * 256) % 16 = rk % 16 from by omega)
      rw [e2]; exact h3 0 (by omega) (by omega)
    · have e2 : gc_dg (rk + r * gc_pw (Int.toNat 2)) (Int.toNat 1) = gc_dg rk (Int.toNat 1) := (show (rk + r * 256) / 16 % 16 = rk / 16 % 16 from by omega)
      rw [e2]; exact h3 1 (by omega) (by omega)
    · have e2 : gc_dg (rk + r * gc_pw (Int.toNat 2)) (Int.toNat 2) = r := (show (rk + r * 256) / 256 % 16 = r from by omega)
      rw [e2]; exact hz
  · have h2 : rk < 4096 := h2
    refine ⟨show 0 ≤ rk + r * 4096 from by omega, show rk + r * 4096 < 65536 from by omega, fun s h4 h5 => ?_⟩
    rcases (show s = 0 ∨ s = 1 ∨ s = 2 ∨ s = 3 from by omega) with rfl | rfl | rfl | rfl
    · have e2 : gc_dg (rk + r * gc_pw (Int.toNat 3)) (Int.toNat 0) = gc_dg rk (Int.toNat 0) := (show (rk + r * 4096) % 16 = rk % 16 from by omega)
      rw [e2]; exact h3 0 (by omega) (by omega)
    · have e2 : gc_dg (rk + r * gc_pw (Int.toNat 3)) (Int.toNat 1) = gc_dg rk (Int.toNat 1) := (show (rk + r * 4096) / 16 % 16 = rk / 16 % 16 from by omega)
      rw [e2]; exact h3 1 (by omega) (by omega)
    · have e2 : gc_dg (rk + r * gc_pw (Int.toNat 3)) (Int.toNat 2) = gc_dg rk (Int.toNat 2) := (show (rk + r * 4096) / 256 % 16 = rk / 256 % 16 from by omega)
      rw [e2]; exact h3 2 (by omega) (by omega)
    · have e2 : gc_dg (rk + r * gc_pw (Int.toNat 3)) (Int.toNat 3) = r := (show (rk + r * 4096) / 4096 % 16 = r from by omega)
      rw [e2]; exact hz
def gc_va (σ : Nat → Int) (I : gr_I) (w rk : Int) : Prop := w < I 48 6 ∧ ∀ s : Int, 0 ≤ s → s < 4 → s < gc_ws σ I (Int.toNat w) → gc_dg rk (Int.toNat s) < I 67 (Int.toNat (I 55 (Int.toNat (w * 4 + s))))
theorem gc_va_fr {σ : Nat → Int} {I Iₚ : gr_I} {w rk : Int} (h : gc_va σ I w rk) (h6 : Iₚ 48 6 = I 48 6) (r4 : ∀ k, Iₚ 54 k = I 54 k) (r5 : ∀ k, Iₚ 55 k = I 55 k) (h7 : ∀ k, I 67 k ≤ Iₚ 67 k) : gc_va σ Iₚ w rk := ⟨by have := h.1; omega, fun s a b c => by
  rw [gc_ws_fr r4] at c
  rw [r5]
  have h2 := h.2 s a b c
  have h3 := h7 (Int.toNat (I 55 (Int.toNat (w * 4 + s))))
  omega⟩
def gc_LH (σ : Nat → Int) (o : Int) (I : gr_I) : Prop := ∀ e : Nat, ¬ (e : Int) = o → e < 48000 → ((e / 16 : Nat) : Int) < I 48 3 → ((e % 16 : Nat) : Int) < I 67 (e / 16) → gc_va σ I (I 69 e) (I 70 e)
theorem gc_LH_fr {σ : Nat → Int} {o : Int} {I Iₚ : gr_I} (h : gc_LH σ o I) (h6 : Iₚ 48 6 = I 48 6) (h3 : Iₚ 48 3 = I 48 3) (r4 : ∀ k, Iₚ 54 k = I 54 k) (r5 : ∀ k, Iₚ 55 k = I 55 k) (r7 : ∀ k, Iₚ 67 k = I 67 k) (r9 : ∀ k, Iₚ 69 k = I 69 k) (r0 : ∀ k, Iₚ 70 k = I 70 k) : gc_LH σ o Iₚ := fun e h1 h2 h4 h5 => by
  rw [r9, r0]
  rw [r7] at h5
  exact gc_va_fr (h e h1 h2 (by omega) h5) h6 r4 r5 (fun k => by rw [r7]; omega)
theorem gc_LH_any {σ : Nat → Int} {o : Int} {I : gr_I} (h : gc_LH σ (-1) I) : gc_LH σ o I := fun e _ h2 h4 h5 => h e (by omega) h2 h4 h5
theorem gc_LH_0 {σ : Nat → Int} {o : Int} {I : gr_I} (h : gc_rg 67 I (I 48 3) 0 0) : gc_LH σ o I := fun e _ h2 h4 h5 => by
  have h9 := h ((e / 16 : Nat) : Int) (by omega) h4
  rw [show Int.toNat ((e / 16 : Nat) : Int) = e / 16 from by omega] at h9
  omega
theorem gc_LH_gr {σ : Nat → Int} {I Iₚ : gr_I} {n : Nat} {o : Int} (h : gc_LH σ (-1) I) (p : ∀ q j, ¬ (q = 67 ∧ j = n) → Iₚ q j = I q j) (hq : Iₚ 67 n = I 67 n + 1) (ho : o = 16 * (n : Int) + I 67 n) : gc_LH σ o Iₚ := fun e h1 h2 h4 h5 => by
  have r : ∀ P, ¬ P = 67 → ∀ k, Iₚ P k = I P k := fun P hP k => p P k (fun h9 => hP h9.1)
  rw [r 69 (by decide), r 70 (by decide)]
  rw [r 48 (by decide)] at h4
  refine gc_va_fr (h e (by omega) h2 h4 ?_) (r 48 (by decide) 6) (r 54 (by decide)) (r 55 (by decide)) (fun k => ?_)
  · by_cases hn : e / 16 = n
    · rw [hn, hq] at h5
      rw [hn]
      omega
    · rw [p 67 _ (fun h9 => hn h9.2)] at h5
      exact h5
  · by_cases hn : k = n
    · rw [hn, hq]; omega
    · rw [p 67 k (fun h9 => hn h9.2)]; omega
theorem gc_LH_mv {σ : Nat → Int} {o : Int} {I Iₚ : gr_I} (h : gc_LH σ o I) (h6 : Iₚ 48 6 = I 48 6) (h3 : Iₚ 48 3 = I 48 3) (r4 : ∀ k, Iₚ 54 k = I 54 k) (r5 : ∀ k, Iₚ 55 k = I 55 k) (r7 : ∀ k, Iₚ 67 k = I 67 k) (r9 : ∀ k, ¬ k = Int.toNat o → Iₚ 69 k = I 69 k) (r0 : ∀ k, ¬ k = Int.toNat o → Iₚ 70 k = I 70 k) (z9 : Iₚ 69 (Int.toNat o) = I 69 (Int.toNat (o - 1))) (z0 : Iₚ 70 (Int.toNat o) = I 70 (Int.toNat (o - 1))) (ho : 1 ≤ o ∧ o < 48000) {n : Nat} (hn : 16 * (n : Int) ≤ o - 1 ∧ o - 1 < 16 * (n : Int) + 16) (hl : (n : Int) < I 48 3 ∧ o - 1 - 16 * (n : Int) < I 67 n) : gc_LH σ (o + (-1)) Iₚ := fun e h1 h2 h4 h5 => by
  rw [r7] at h5
  by_cases he : e = Int.toNat o
  · subst he
    rw [z9, z0]
    have en : Int.toNat (o - 1) / 16 = n := by omega
    refine gc_va_fr (h (Int.toNat (o - 1)) (by omega) (by omega) (by rw [en]; omega) (by rw [en]; omega)) h6 r4 r5 (fun k => by rw [r7]; omega)
  · rw [r9 e he, r0 e he]
    exact gc_va_fr (h e (by omega) h2 (by omega) h5) h6 r4 r5 (fun k => by rw [r7]; omega)
theorem gc_LH_pt {σ : Nat → Int} {o : Int} {I Iₚ : gr_I} (h : gc_LH σ o I) (h6 : Iₚ 48 6 = I 48 6) (h3 : Iₚ 48 3 = I 48 3) (r4 : ∀ k, Iₚ 54 k = I 54 k) (r5 : ∀ k, Iₚ 55 k = I 55 k) (r7 : ∀ k, Iₚ 67 k = I 67 k) (r9 : ∀ k, ¬ k = Int.toNat o → Iₚ 69 k = I 69 k) (r0 : ∀ k, ¬ k = Int.toNat o → Iₚ 70 k = I 70 k) (h0 : 0 ≤ o) (hz : gc_va σ Iₚ (Iₚ 69 (Int.toNat o)) (Iₚ 70 (Int.toNat o))) : gc_LH σ (-1) Iₚ := fun e h1 h2 h4 h5 => by
  rw [r7] at h5
  by_cases he : e = Int.toNat o
  · subst he; exact hz
  · rw [r9 e he, r0 e he]
    exact gc_va_fr (h e (by omega) h2 (by omega) h5) h6 r4 r5 (fun k => by rw [r7]; omega)
def gc_OR (I : gr_I) : Prop := (0 ≤ I 61 9 ∧ I 61 9 ≤ 1) ∧ ∀ i : Nat, (i : Int) < I 61 8 → I (61 + 4 + 1 * Int.toNat (I 61 9)) i < I 48 6
theorem gc_OR_fr {I Iₚ : gr_I} (h : gc_OR I) (h8 : Iₚ 61 8 = I 61 8) (ho : Iₚ 61 9 = I 61 9) (h6 : Iₚ 48 6 = I 48 6) (h1 : ∀ k, Iₚ 65 k = I 65 k) (h2 : ∀ k, Iₚ 66 k = I 66 k) : gc_OR Iₚ := by
  refine ⟨by rw [ho]; exact h.1, fun i hi => ?_⟩
  have h9 := h.2 i (by omega)
  have hr := h.1
  rw [ho, h6]
  rcases (show 61 + 4 + 1 * Int.toNat (I 61 9) = 65 ∨ 61 + 4 + 1 * Int.toNat (I 61 9) = 66 from by omega) with e | e <;> rw [e] at h9 ⊢
  · rw [h1]; exact h9
  · rw [h2]; exact h9
theorem gc_OR_at {I : gr_I} {f i : Nat} (h : gc_OR I) (hq : 61 + 4 + 1 * Int.toNat (I 61 9) = f) (hi : (i : Int) < I 61 8) : I f i < I 48 6 := by
  rw [← hq]
  exact h.2 i hi
theorem gc_OR_0 {I : gr_I} (hr : 0 ≤ I 61 9 ∧ I 61 9 ≤ 1) (h : I 61 8 ≤ 0) : gc_OR I := ⟨hr, fun i hi => by omega⟩
theorem gc_OR_push {I I1 I2 : gr_I} {q : Nat} (h : gc_OR I) (h0 : 0 ≤ I 61 8) (p1 : ∀ q' j, ¬ (q' = 61 ∧ j = 8) → I1 q' j = I q' j) (e1 : I1 61 8 = I 61 8 + 1) (p2 : ∀ q' j, ¬ (q' = q ∧ j = Int.toNat (I 61 8)) → I2 q' j = I1 q' j) (hq : 61 + 4 + 1 * Int.toNat (I 61 9) = q) (hz : I2 q (Int.toNat (I 61 8)) < I2 48 6) : gc_OR I2 := by
  have hr := h.1
  have a1 : I2 61 8 = I 61 8 + 1 := (p2 61 8 (fun h9 => by omega)).trans e1
  have a2 : I2 61 9 = I 61 9 := (p2 61 9 (fun h9 => by omega)).trans (p1 61 9 (fun h9 => absurd h9.2 (by decide)))
  have a3 : I2 48 6 = I 48 6 := (p2 48 6 (fun h9 => by omega)).trans (p1 48 6 (fun h9 => absurd h9.1 (by decide)))
  refine ⟨by rw [a2]; exact hr, fun i hi => ?_⟩
  rw [a2, hq]
  by_cases e : i = Int.toNat (I 61 8)
  · rw [e]; exact hz
  · rw [p2 q i (fun h9 => e h9.2), p1 q i (fun h9 => by omega), a3]
    exact gc_OR_at h hq (by omega)
theorem gc_OR_st {I Iₚ : gr_I} {q k : Nat} (h : gc_OR I) (p : ∀ q' j, ¬ (q' = q ∧ j = k) → Iₚ q' j = I q' j) (hq : q = 65 ∨ q = 66) (hz : Iₚ q k < I 48 6) : gc_OR Iₚ := by
  have hr := h.1
  have a1 : Iₚ 61 8 = I 61 8 := p 61 8 (fun h9 => by omega)
  have a2 : Iₚ 61 9 = I 61 9 := p 61 9 (fun h9 => by omega)
  have a3 : Iₚ 48 6 = I 48 6 := p 48 6 (fun h9 => by omega)
  refine ⟨by rw [a2]; exact hr, fun i hi => ?_⟩
  rw [a2, a3]
  by_cases e : 61 + 4 + 1 * Int.toNat (I 61 9) = q ∧ i = k
  · rw [e.1, e.2]; exact hz
  · rw [p _ i e]; exact h.2 i (by omega)
def gc_SR (b : Int) (I : gr_I) : Prop := (0 ≤ I 61 10 ∧ I 61 10 ≤ 1) ∧ ∀ i : Nat, (i : Int) < b → I (61 + 4 + 1 * Int.toNat (I 61 10)) i < I 48 6
theorem gc_SR_nx {b : Int} {I Iₚ : gr_I} {q : Nat} (h : gc_SR b I) (h0 : 0 ≤ b) (p : ∀ q' j, ¬ (q' = q ∧ j = Int.toNat b) → Iₚ q' j = I q' j) (hq : 61 + 4 + 1 * Int.toNat (I 61 10) = q) (hz : Iₚ q (Int.toNat b) < I 48 6) : gc_SR (b + 1) Iₚ := by
  have hr := h.1
  have a2 : Iₚ 61 10 = I 61 10 := p 61 10 (fun h9 => by omega)
  have a3 : Iₚ 48 6 = I 48 6 := p 48 6 (fun h9 => by omega)
  refine ⟨by rw [a2]; exact hr, fun i hi => ?_⟩
  rw [a2, a3, hq]
  by_cases e : i = Int.toNat b
  · rw [e]; exact hz
  · rw [p q i (fun h9 => e h9.2), ← hq]; exact h.2 i (by omega)
theorem gc_SR_w {b b' : Int} {I : gr_I} (h : gc_SR b I) (e : b' ≤ b) : gc_SR b' I := ⟨h.1, fun i hi => h.2 i (by omega)⟩
theorem gc_OR_sw {b : Int} {I Iₚ : gr_I} (h : gc_SR b I) (hb : Iₚ 61 8 ≤ b) (ho : Iₚ 61 9 = I 61 10) (h6 : Iₚ 48 6 = I 48 6) (h1 : ∀ k, Iₚ 65 k = I 65 k) (h2 : ∀ k, Iₚ 66 k = I 66 k) : gc_OR Iₚ := by
  refine ⟨by rw [ho]; exact h.1, fun i hi => ?_⟩
  have h9 := h.2 i (by omega)
  have hr := h.1
  rw [ho, h6]
  rcases (show 61 + 4 + 1 * Int.toNat (I 61 10) = 65 ∨ 61 + 4 + 1 * Int.toNat (I 61 10) = 66 from by omega) with e | e <;> rw [e] at h9 ⊢
  · rw [h1]; exact h9
  · rw [h2]; exact h9
set_option maxHeartbeats 8000000 in
set_option maxRecDepth 100000 in
theorem d_X5_reach_L100 {ws0 : List Cond} {tb : String → gz_T} (hws : gc_Ws ws0) (htb : gc_tbs tb) (sh : gz_Sh) (ro : Nat → Nat) (I : gr_I) (J : gr_J) (A : gc_A) (hI : gc_Inv ro I) (t : Nat)  (hb : gc_Base sh ro A) (h_t : gc_isTongue sh ro A t) (G_t : 144 ≤ t)  (x0 : gc_Ls sh ro A t I) (x1 : gc_WV t I) (x2 : gc_FN I) (x3 : I 61 2 = (t : Int)) : ∀ (n9 : Nat) (I25 : gr_I) (J26 : gr_J) (v2_27 : Int), (v2_27 - (-2)).toNat < n9 → gc_Inv ro I25 → (∀ q j : Nat, ((q = 61 ∧ j = 8) ∨ q = 64 ∨ q = 65 ∨ q = 66 ∨ q = 67) ∨ I25 q j = I q j) → (∀ q j : Nat, (False) ∨ J26 q j = J q j) → gc_OR I25 → (((-1) ≤ v2_27 ∧ v2_27 ≤ 8999) ∧ (I25 61 8 + v2_27 + 1 ≤ I25 48 6) ∧ (I25 48 3 = I 48 3) ∧ (I25 48 6 = I 48 6) ∧ (I25 48 10 = I 48 10) ∧ (I25 61 2 = (t : Int))) → (gc_rg 67 I25 (I25 48 3) 0 0) → gv_X (gc_E5 ws0 tb 2 (yX5_reach, cX5_reach, 4, none) kX5_reach) (gv_Q cX5_reach none sh (fun r hₚ => (∃ (Iₚ : gr_I) (Jₚ : gr_J), hₚ = gc_h sh Iₚ Jₚ A ∧ gc_Inv ro Iₚ ∧ (∀ q j : Nat, ((q = 61 ∧ j = 8) ∨ q = 64 ∨ q = 65 ∨ q = 66 ∨ q = 67) ∨ Iₚ q j = I q j) ∧ (∀ q j : Nat, (False) ∨ Jₚ q j = J q j) ∧ r = none ∧ (gc_OR Iₚ) ∧ (gc_rg 67 Iₚ (Iₚ 48 3) 0 0)))) (100, [(0, .inr (.inr (some 61))), (2, .inl v2_27)], [], sh, gc_h sh I25 J26 A) := by
  have FI : ∀ q j : Nat, ((q = 61 ∧ j = 8) ∨ q = 64 ∨ q = 65 ∨ q = 66 ∨ q = 67) ∨ I q j = I q j := fun _ _ => Or.inr rfl
  have FJ : ∀ q j : Nat, (False) ∨ J q j = J q j := fun _ _ => Or.inr rfl
  have A_48_1 : A 48 1 = some 49 := gc_bA_48_1 hb
  have A_48_2 : A 48 2 = some 50 := gc_bA_48_2 hb
  have A_48_7 : A 48 7 = some 53 := gc_bA_48_7 hb
  have A_48_9 : A 48 9 = some 55 := gc_bA_48_9 hb
  have A_61_1 : A 61 1 = some 48 := gc_bA_61_1 hb
  have A_61_11 : A 61 11 = some 67 := gc_bA_61_11 hb
  have A_61_5 : A 61 5 = some 62 := gc_bA_61_5 hb
  have A_61_7 : A 61 7 = some 64 := gc_bA_61_7 hb
  have B_48 := gz_hi (show 48 < 1000000 from by decide)
  have B_49 := gz_hi (show 49 < 1000000 from by decide)
  have B_50 := gz_hi (show 50 < 1000000 from by decide)
  have B_53 := gz_hi (show 53 < 1000000 from by decide)
  have B_55 := gz_hi (show 55 < 1000000 from by decide)
  have B_61 := gz_hi (show 61 < 1000000 from by decide)
  have B_62 := gz_hi (show 62 < 1000000 from by decide)
  have B_64 := gz_hi (show 64 < 1000000 from by decide)
  have B_65 := gz_hi (show 65 < 1000000 from by decide)
  have B_66 := gz_hi (show 66 < 1000000 from by decide)
  have B_67 := gz_hi (show 67 < 1000000 from by decide)
  have R_48 := gz_hi (show ro 48 = 49 from gc_bR_48 hb)
  have R_49 := gz_hi (show ro 49 = 43 from gc_bR_49 hb)
  have R_50 := gz_hi (show ro 50 = 43 from gc_bR_50 hb)
  have R_53 := gz_hi (show ro 53 = 44 from gc_bR_53 hb)
  have R_55 := gz_hi (show ro 55 = 44 from gc_bR_55 hb)
  have R_61 := gz_hi (show ro 61 = 72 from gc_bR_61 hb)
  have R_62 := gz_hi (show ro 62 = 2 from gc_bR_62 hb)
  have R_64 := gz_hi (show ro 64 = 2 from gc_bR_64 hb)
  have R_65 := gz_hi (show ro 65 = 51 from gc_bR_65 hb)
  have R_66 := gz_hi (show ro 66 = 51 from gc_bR_66 hb)
  have R_67 := gz_hi (show ro 67 = 52 from gc_bR_67 hb)
  have S_48 : sh[48]? = some (false, 0, 22) := gc_bS_48 hb
  have S_49 : sh[49]? = some (true, 1, 18432) := gc_bS_49 hb
  have S_50 : sh[50]? = some (true, 1, 18432) := gc_bS_50 hb
  have S_53 : sh[53]? = some (true, 1, 9000) := gc_bS_53 hb
  have S_55 : sh[55]? = some (true, 1, 36000) := gc_bS_55 hb
  have S_61 : sh[61]? = some (false, 5, 19) := gc_bS_61 hb
  have S_62 : sh[62]? = some (true, 3, 96) := gc_bS_62 hb
  have S_64 : sh[64]? = some (true, 3, 3000) := gc_bS_64 hb
  have S_65 : sh[65]? = some (true, 1, 9000) := gc_bS_65 hb
  have S_66 : sh[66]? = some (true, 1, 9000) := gc_bS_66 hb
  have S_67 : sh[67]? = some (true, 1, 3000) := gc_bS_67 hb
  obtain ⟨S_t, R_t, B_t, A_t_0, h_t_1, A_t_1, h_t_3, A_t_2, S_t_5, R_t_5, B_t_5, A_t_3, S_t_6, R_t_6, B_t_6, A_t_4, h_t_7, A_t_5, S_t_9, R_t_9, B_t_9, A_t_7, S_t_10, R_t_10, B_t_10, A_t_8, h_t_11, A_t_9, S_t_13, R_t_13, B_t_13, A_t_10, S_t_14, R_t_14, B_t_14, A_t_12, S_t_15, R_t_15, B_t_15, A_t_14, S_t_16, R_t_16, B_t_16, A_t_15, h_t_17⟩ := id h_t
  replace R_t := gz_hi R_t
  replace B_t := gz_hi B_t
  replace R_t_5 := gz_hi R_t_5
  replace B_t_5 := gz_hi B_t_5
  replace R_t_6 := gz_hi R_t_6
  replace B_t_6 := gz_hi B_t_6
  replace R_t_9 := gz_hi R_t_9
  replace B_t_9 := gz_hi B_t_9
  replace R_t_10 := gz_hi R_t_10
  replace B_t_10 := gz_hi B_t_10
  replace R_t_13 := gz_hi R_t_13
  replace B_t_13 := gz_hi B_t_13
  replace R_t_14 := gz_hi R_t_14
  replace B_t_14 := gz_hi B_t_14
  replace R_t_15 := gz_hi R_t_15
  replace B_t_15 := gz_hi B_t_15
  replace R_t_16 := gz_hi R_t_16
  replace B_t_16 := gz_hi B_t_16
  obtain ⟨S_t_1, R_t_1, B_t_1, A_t_1_0, S_t_1_1, R_t_1_1, B_t_1_1, Q0_t_1, Q1_t_1, Q2_t_1⟩ := id h_t_1
  replace R_t_1 := gz_hi R_t_1
  replace B_t_1 := gz_hi B_t_1
  replace R_t_1_1 := gz_hi R_t_1_1
  replace B_t_1_1 := gz_hi B_t_1_1
  obtain ⟨S_t_3, R_t_3, B_t_3, A_t_3_0, S_t_3_1, R_t_3_1, B_t_3_1, Q0_t_3, Q1_t_3, Q2_t_3⟩ := id h_t_3
  replace R_t_3 := gz_hi R_t_3
  replace B_t_3 := gz_hi B_t_3
  replace R_t_3_1 := gz_hi R_t_3_1
  replace B_t_3_1 := gz_hi B_t_3_1
  obtain ⟨S_t_7, R_t_7, B_t_7, A_t_7_0, S_t_7_1, R_t_7_1, B_t_7_1, Q0_t_7, Q1_t_7, Q2_t_7⟩ := id h_t_7
  replace R_t_7 := gz_hi R_t_7
  replace B_t_7 := gz_hi B_t_7
  replace R_t_7_1 := gz_hi R_t_7_1
  replace B_t_7_1 := gz_hi B_t_7_1
  obtain ⟨S_t_11, R_t_11, B_t_11, A_t_11_0, S_t_11_1, R_t_11_1, B_t_11_1, Q0_t_11, Q1_t_11, Q2_t_11⟩ := id h_t_11
  replace R_t_11 := gz_hi R_t_11
  replace B_t_11 := gz_hi B_t_11
  replace R_t_11_1 := gz_hi R_t_11_1
  replace B_t_11_1 := gz_hi B_t_11_1
  obtain ⟨S_t_17, R_t_17, B_t_17, A_t_17_0, S_20, R_20, B_20, A_t_17_1, S_t_17_1, R_t_17_1, B_t_17_1, A_t_17_2, S_t_17_2, R_t_17_2, B_t_17_2, A_t_17_3, S_t_17_3, R_t_17_3, B_t_17_3, A_t_17_4, S_t_17_4, R_t_17_4, B_t_17_4, A_t_17_5, S_t_17_5, R_t_17_5, B_t_17_5, S_t_17_6, R_t_17_6, B_t_17_6, S_t_17_7, R_t_17_7, B_t_17_7⟩ := id h_t_17
  replace R_t_17 := gz_hi R_t_17
  replace B_t_17 := gz_hi B_t_17
  replace R_20 := gz_hi R_20
  replace B_20 := gz_hi B_20
  replace R_t_17_1 := gz_hi R_t_17_1
  replace B_t_17_1 := gz_hi B_t_17_1
  replace R_t_17_2 := gz_hi R_t_17_2
  replace B_t_17_2 := gz_hi B_t_17_2
  replace R_t_17_3 := gz_hi R_t_17_3
  replace B_t_17_3 := gz_hi B_t_17_3
  replace R_t_17_4 := gz_hi R_t_17_4
  replace B_t_17_4 := gz_hi B_t_17_4
  replace R_t_17_5 := gz_hi R_t_17_5
  replace B_t_17_5 := gz_hi B_t_17_5
  replace R_t_17_6 := gz_hi R_t_17_6
  replace B_t_17_6 := gz_hi B_t_17_6
  replace R_t_17_7 := gz_hi R_t_17_7
  replace B_t_17_7 := gz_hi B_t_17_7
  have hD : gv_D (gc_E5 ws0 tb 2 (yX5_reach, cX5_reach, 4, none) kX5_reach) := gq_of oX5_reach
  have N_t__64 := gz_hi (show ¬ (t = 64) from by (/-0-/first | (have o1 := gz_sh B_t; have o2 := gz_sh B_t_10; have o3 := gz_sh B_t_13; have o4 := gz_sh B_t_14; have o5 := gz_sh B_t_15; have o6 := gz_sh B_t_16; have o7 := gz_sh B_t_17; have o8 := gz_sh B_t_17_1; have o9 := gz_sh B_t_17_2; have o10 := gz_sh B_t_17_3; have o11 := gz_sh B_t_17_4; have o12 := gz_sh B_t_17_5; have o13 := gz_sh B_t_17_6; have o14 := gz_sh B_t_17_7; have o15 := gz_sh B_t_5; have o16 := gz_sh B_t_6; have o17 := gz_sh B_t_9; omega) | (simp only [gz_hd] at *; omega)))
  have N_t__65 := gz_hi (show ¬ (t = 65) from by (/-1-/first | (have o1 := gz_sh B_t; have o2 := gz_sh B_t_10; have o3 := gz_sh B_t_13; have o4 := gz_sh B_t_14; have o5 := gz_sh B_t_15; have o6 := gz_sh B_t_16; have o7 := gz_sh B_t_17; have o8 := gz_sh B_t_17_1; have o9 := gz_sh B_t_17_2; have o10 := gz_sh B_t_17_3; have o11 := gz_sh B_t_17_4; have o12 := gz_sh B_t_17_5; have o13 := gz_sh B_t_17_6; have o14 := gz_sh B_t_17_7; have o15 := gz_sh B_t_5; have o16 := gz_sh B_t_6; have o17 := gz_sh B_t_9; omega) | (simp only [gz_hd] at *; omega)))
  have N_t__66 := gz_hi (show ¬ (t = 66) from by (/-2-/first | (have o1 := gz_sh B_t; have o2 := gz_sh B_t_10; have o3 := gz_sh B_t_13; have o4 := gz_sh B_t_14; have o5 := gz_sh B_t_15; have o6 := gz_sh B_t_16; have o7 := gz_sh B_t_17; have o8 := gz_sh B_t_17_1; have o9 := gz_sh B_t_17_2; have o10 := gz_sh B_t_17_3; have o11 := gz_sh B_t_17_4; have o12 := gz_sh B_t_17_5; have o13 := gz_sh B_t_17_6; have o14 := gz_sh B_t_17_7; have o15 := gz_sh B_t_5; have o16 := gz_sh B_t_6; have o17 := gz_sh B_t_9; omega) | (simp only [gz_hd] at *; omega)))
  have N_t__67 := gz_hi (show ¬ (t = 67) from by (/-3-/first | (have o1 := gz_sh B_t; have o2 := gz_sh B_t_10; have o3 := gz_sh B_t_13; have o4 := gz_sh B_t_14; have o5 := gz_sh B_t_15; have o6 := gz_sh B_t_16; have o7 := gz_sh B_t_17; have o8 := gz_sh B_t_17_1; have o9 := gz_sh B_t_17_2; have o10 := gz_sh B_t_17_3; have o11 := gz_sh B_t_17_4; have o12 := gz_sh B_t_17_5; have o13 := gz_sh B_t_17_6; have o14 := gz_sh B_t_17_7; have o15 := gz_sh B_t_5; have o16 := gz_sh B_t_6; have o17 := gz_sh B_t_9; omega) | (simp only [gz_hd] at *; omega)))
  have f1 := gz_hi ((gc_b_49_3 hI (gz_sh R_48)))
  have f2 := gz_hi ((gc_b_49_6 hI (gz_sh R_48)))
  have f3 := gz_hi ((gc_b_49_10 hI (gz_sh R_48)))
  intro n9
  induction n9 with
  | zero => intro I25 J26 v2_27 hn; (/-6-/first | omega | (simp only [gz_hd] at *; omega))
  | succ n9 ih100 =>
    intro I25 J26 v2_27 hn hI25 FI25 FJ26 KOR_I25 m_27 e0_27
    obtain ⟨hv2_27, e1_27, e2_27, e3_27, e4_27, e5_27⟩ := gz_h6 m_27
    have f31 := gz_hi ((gc_b_72_8 hI25 (gz_sh R_61)))
    have L187 : ∀ (I34 : gr_I) (J35 : gr_J) , gc_Inv ro I34 → (∀ q j : Nat, ((q = 61 ∧ j = 8) ∨ q = 64 ∨ q = 65 ∨ q = 66 ∨ q = 67) ∨ I34 q j = I q j) → (∀ q j : Nat, (False) ∨ J35 q j = J q j) → gc_OR I34 → ((0 ≤ v2_27 ∧ v2_27 ≤ 8999) ∧ (I34 61 8 + v2_27 ≤ I34 48 6) ∧ (v2_27 < I34 48 6) ∧ (0 ≤ v2_27) ∧ (I34 48 3 = I 48 3) ∧ (I34 48 6 = I 48 6) ∧ (I34 48 10 = I 48 10) ∧ (I34 61 2 = (t : Int))) → (gc_rg 67 I34 (I34 48 3) 0 0) → gv_X (gc_E5 ws0 tb 2 (yX5_reach, cX5_reach, 4, none) kX5_reach) (gv_Q cX5_reach none sh (fun r hₚ => (∃ (Iₚ : gr_I) (Jₚ : gr_J), hₚ = gc_h sh Iₚ Jₚ A ∧ gc_Inv ro Iₚ ∧ (∀ q j : Nat, ((q = 61 ∧ j = 8) ∨ q = 64 ∨ q = 65 ∨ q = 66 ∨ q = 67) ∨ Iₚ q j = I q j) ∧ (∀ q j : Nat, (False) ∨ Jₚ q j = J q j) ∧ r = none ∧ (gc_OR Iₚ) ∧ (gc_rg 67 Iₚ (Iₚ 48 3) 0 0)))) (187, [(0, .inr (.inr (some 61))), (2, .inl v2_27)], [], sh, gc_h sh I34 J35 A) := by
      intro I34 J35 hI34 FI34 FJ35 KOR_I34 m_36 e0_36
      clear hv2_27 e1_27 e2_27 e3_27 e4_27 e5_27 f31
      obtain ⟨hv2_27_36, e1_36, e2_36, e3_36, e4_36, e5_36, e6_36, e7_36⟩ := gz_h8 m_36
      refine gv_run 2 true hD (pcₚ := 100) (lvₚ := [(2, .inl (v2_27 + (-1))), (0, .inr (.inr (some 61)))]) (stₚ := []) (hₚ := gc_h sh I34 J35 A) (C := ((True ∧ True) ∧ True)) rfl ⟨⟨trivial, trivial⟩, trivial⟩ ?_
      refine gv_pick [1, 0] rfl ?_
      exact ih100 I34 J35 ((v2_27 + (-1))) (by (/-7-/first | (have o1 := gz_sh hv2_27_36; omega) | (simp only [gz_hd] at *; omega))) hI34 FI34 FJ35 KOR_I34 (by (/-8-/first | (and_intros; (have o1 := gz_sh hv2_27_36; omega); (have o1 := gz_sh hv2_27_36; omega); (have o1 := gz_sh e1_36; omega); (have o1 := gz_sh e4_36; omega); (have o1 := gz_sh e5_36; omega); (have o1 := gz_sh e6_36; omega); (have o1 := gz_sh e7_36; omega)) | (simp only [gz_hd] at *; omega))) (gc_rg_m e0_36 (by (/-9-/first | omega | (simp only [gz_hd] at *; omega))))
    have L153 : ∀ (n9 : Nat) (I43 : gr_I) (J44 : gr_J) (v3_45 : Int), (5 - v3_45).toNat < n9 → gc_Inv ro I43 → (∀ q j : Nat, ((q = 61 ∧ j = 8) ∨ q = 64 ∨ q = 65 ∨ q = 66 ∨ q = 67) ∨ I43 q j = I q j) → (∀ q j : Nat, (False) ∨ J44 q j = J q j) → gc_OR I43 → ((0 ≤ v2_27 ∧ v2_27 ≤ 8999) ∧ (0 ≤ v3_45 ∧ v3_45 ≤ 4) ∧ (I43 61 8 + v2_27 ≤ I43 48 6) ∧ (v2_27 < I43 48 6) ∧ (0 ≤ v2_27) ∧ (I43 48 3 = I 48 3) ∧ (I43 48 6 = I 48 6) ∧ (I43 48 10 = I 48 10) ∧ (I43 61 2 = (t : Int))) → (gc_rg 67 I43 (I43 48 3) 0 0) → gv_X (gc_E5 ws0 tb 2 (yX5_reach, cX5_reach, 4, none) kX5_reach) (gv_Q cX5_reach none sh (fun r hₚ => (∃ (Iₚ : gr_I) (Jₚ : gr_J), hₚ = gc_h sh Iₚ Jₚ A ∧ gc_Inv ro Iₚ ∧ (∀ q j : Nat, ((q = 61 ∧ j = 8) ∨ q = 64 ∨ q = 65 ∨ q = 66 ∨ q = 67) ∨ Iₚ q j = I q j) ∧ (∀ q j : Nat, (False) ∨ Jₚ q j = J q j) ∧ r = none ∧ (gc_OR Iₚ) ∧ (gc_rg 67 Iₚ (Iₚ 48 3) 0 0)))) (153, [(0, .inr (.inr (some 61))), (2, .inl v2_27), (3, .inl v3_45)], [], sh, gc_h sh I43 J44 A) := by
      intro n9
      induction n9 with
      | zero => intro I43 J44 v3_45 hn; (/-10-/first | omega | (simp only [gz_hd] at *; omega))
      | succ n9 ih153 =>
        intro I43 J44 v3_45 hn hI43 FI43 FJ44 KOR_I43 m_45 e0_45
        clear hv2_27 e1_27 e2_27 e3_27 e4_27 e5_27 f31
        obtain ⟨hv2_27_45, hv3_45, e1_45, e2_45, e3_45, e4_45, e5_45, e6_45, e7_45⟩ := gz_h9 m_45
        refine gv_run 3 true hD (pcₚ := 156) (lvₚ := [(0, .inr (.inr (some 61))), (2, .inl v2_27), (3, .inl v3_45)]) (stₚ := [.inl v2_27, .inr (.inr (some 61)), .inl v3_45]) (hₚ := gc_h sh I43 J44 A) (C := (((True ∧ True) ∧ True) ∧ True)) rfl ⟨⟨⟨trivial, trivial⟩, trivial⟩, trivial⟩ ?_
        obtain ⟨r52, h52, E52, P52⟩ := d_X5_slotsOf (ws0 := ws0) (tb := tb) hws htb sh ro I43 J44 A hI43  t v2_27 hb  h_t G_t  ⟨by (/-11-/first | (have o1 := gz_sh e3_45; omega) | (simp only [gz_hd] at *; omega)), by (/-12-/first | (have o1 := gz_sh hv2_27_45; omega) | (simp only [gz_hd] at *; omega))⟩ (gc_Ls_fr x0 ((FI43 t 13).resolve_left (by (/-13-/first | (have o1 := gz_sh B_t; have o2 := gz_sh B_t_10; have o3 := gz_sh B_t_13; have o4 := gz_sh B_t_14; have o5 := gz_sh B_t_15; have o6 := gz_sh B_t_16; have o7 := gz_sh B_t_17; have o8 := gz_sh B_t_17_1; have o9 := gz_sh B_t_17_2; have o10 := gz_sh B_t_17_3; have o11 := gz_sh B_t_17_4; have o12 := gz_sh B_t_17_5; have o13 := gz_sh B_t_17_6; have o14 := gz_sh B_t_17_7; have o15 := gz_sh B_t_5; have o16 := gz_sh B_t_6; have o17 := gz_sh B_t_9; have o18 := gz_sh e7_45; omega) | (simp only [gz_hd] at *; omega)))) (fun q hL hq d k hd => (FI43 (q + d) k).resolve_left (by have := gc_dj_LT hL h_t; (/-14-/first | omega | (simp only [gz_hd] at *; omega))))) (gc_WV_fr x1 ((FI43 48 6).resolve_left (fun h => h.elim (fun h => absurd h.2 (by first | exact gz_ne rfl | decide)) (fun h => h.elim (fun h => absurd h (by first | exact gz_ne rfl | decide)) (fun h => h.elim (fun h => absurd h (by first | exact gz_ne rfl | decide)) (fun h => h.elim (fun h => absurd h (by first | exact gz_ne rfl | decide)) (fun h => absurd h (by first | exact gz_ne rfl | decide))))))) ((FI43 t 13).resolve_left (fun h => h.elim (fun h => absurd h.2 (by first | exact gz_ne rfl | decide)) (fun h => h.elim (fun h => absurd h (gz_sh N_t__64)) (fun h => h.elim (fun h => absurd h (gz_sh N_t__65)) (fun h => h.elim (fun h => absurd h (gz_sh N_t__66)) (fun h => absurd h (gz_sh N_t__67))))))) (fun k => (FI43 54 k).resolve_left (fun h => h.elim (fun h => absurd h.1 (by first | exact gz_ne rfl | decide)) (fun h => h.elim (fun h => absurd h (by first | exact gz_ne rfl | decide)) (fun h => h.elim (fun h => absurd h (by first | exact gz_ne rfl | decide)) (fun h => h.elim (fun h => absurd h (by first | exact gz_ne rfl | decide)) (fun h => absurd h (by first | exact gz_ne rfl | decide)))))))) (by (/-15-/first | (have o1 := gz_sh e2_45; omega) | (simp only [gz_hd] at *; omega))) (by (/-16-/first | (have o1 := gz_sh e7_45; omega) | (simp only [gz_hd] at *; omega))) 
        obtain ⟨rfl, ⟨z52, rfl, q52⟩⟩ := P52
        replace q52 := gz_hi q52
        refine gv_callV hD rfl (As := [.inl v2_27]) (st := [.inl v3_45]) rfl (gz_sh B_61) S_61 rfl (gc_lV5 hws rfl) (Nat.le_of_ble_eq_true rfl) (gz_Ev_mono (d := 1) (by decide) E52) ?_
        show gv_X _ _ (159, [(0, .inr (.inr (some 61))), (2, .inl v2_27), (3, .inl v3_45)], [.inl z52, .inl v3_45], sh, gc_h sh I43 J44 A)
        refine gv_icmp_ge (t := 187) hD rfl rfl ⟨⟨by (/-17-/first | (have o1 := gz_sh hv3_45; omega) | (simp only [gz_hd] at *; omega)), by (/-18-/first | (have o1 := gz_sh hv3_45; omega) | (simp only [gz_hd] at *; omega))⟩, ⟨by (/-19-/first | (have o1 := gz_sh q52; omega) | (simp only [gz_hd] at *; omega)), by (/-20-/first | (have o1 := gz_sh q52; omega) | (simp only [gz_hd] at *; omega))⟩⟩ (fun c53 => ?_) (fun c53 => ?_)
        · show gv_X _ _ (187, [(0, .inr (.inr (some 61))), (2, .inl v2_27), (3, .inl v3_45)], [], sh, gc_h sh I43 J44 A)
          refine gv_pick [0, 1] rfl ?_
          exact L187 I43 J44 hI43 FI43 FJ44 KOR_I43 (by (/-21-/first | (and_intros; (have o1 := gz_sh hv2_27_45; omega); (have o1 := gz_sh hv2_27_45; omega); (have o1 := gz_sh e1_45; omega); (have o1 := gz_sh e2_45; omega); (have o1 := gz_sh hv2_27_45; omega); (have o1 := gz_sh e4_45; omega); (have o1 := gz_sh e5_45; omega); (have o1 := gz_sh e6_45; omega); (have o1 := gz_sh e7_45; omega)) | (simp only [gz_hd] at *; omega))) (gc_rg_m e0_45 (by (/-22-/first | omega | (simp only [gz_hd] at *; omega))))
        · show gv_X _ _ (162, [(0, .inr (.inr (some 61))), (2, .inl v2_27), (3, .inl v3_45)], [], sh, gc_h sh I43 J44 A)
          refine gv_run 1 true hD (pcₚ := 163) (lvₚ := [(0, .inr (.inr (some 61))), (2, .inl v2_27), (3, .inl v3_45)]) (stₚ := [.inr (.inr (some 61))]) (hₚ := gc_h sh I43 J44 A) (C := (True ∧ True)) rfl ⟨trivial, trivial⟩ ?_
          refine gv_get hD rfl rfl S_61 ⟨by decide, (gz_sh B_61)⟩ (gc_hA S_61 rfl A_61_7) ?_
          show gv_X _ _ (166, [(0, .inr (.inr (some 61))), (2, .inl v2_27), (3, .inl v3_45)], [.inr (.inr (some 64))], sh, gc_h sh I43 J44 A)
          refine gv_run 1 true hD (pcₚ := 167) (lvₚ := [(0, .inr (.inr (some 61))), (2, .inl v2_27), (3, .inl v3_45)]) (stₚ := [.inr (.inr (some 61)), .inr (.inr (some 64))]) (hₚ := gc_h sh I43 J44 A) (C := (True ∧ True)) rfl ⟨trivial, trivial⟩ ?_
          refine gv_get hD rfl rfl S_61 ⟨by decide, (gz_sh B_61)⟩ (gc_hA S_61 rfl A_61_1) ?_
          show gv_X _ _ (170, [(0, .inr (.inr (some 61))), (2, .inl v2_27), (3, .inl v3_45)], [.inr (.inr (some 48)), .inr (.inr (some 64))], sh, gc_h sh I43 J44 A)
          refine gv_get hD rfl rfl S_48 ⟨by decide, (gz_sh B_48)⟩ (gc_hA S_48 rfl A_48_9) ?_
          show gv_X _ _ (173, [(0, .inr (.inr (some 61))), (2, .inl v2_27), (3, .inl v3_45)], [.inr (.inr (some 55)), .inr (.inr (some 64))], sh, gc_h sh I43 J44 A)
          refine gv_run 5 true hD (pcₚ := 178) (lvₚ := [(0, .inr (.inr (some 61))), (2, .inl v2_27), (3, .inl v3_45)]) (stₚ := [.inl ((v2_27 * 4) + v3_45), .inr (.inr (some 55)), .inr (.inr (some 64))]) (hₚ := gc_h sh I43 J44 A) (C := (((((True ∧ True) ∧ True) ∧ True) ∧ True) ∧ True)) rfl ⟨⟨⟨⟨⟨trivial, trivial⟩, trivial⟩, trivial⟩, trivial⟩, trivial⟩ ?_
          have f54 := gz_hi ((gc_b_44 hI43 (gz_sh R_55) (Int.toNat (((v2_27 * 4) + v3_45)))))
          refine gv_iald hD rfl S_55 rfl ⟨by decide, (gz_sh B_55)⟩ ⟨by (/-23-/first | (have o1 := gz_sh hv2_27_45; have o2 := gz_sh hv3_45; omega) | (simp only [gz_hd] at *; omega)), by (/-24-/first | (have o1 := gz_sh e2_45; have o2 := gz_sh e5_45; have o3 := gz_sh f2; have o4 := gz_sh q52; omega) | (simp only [gz_hd] at *; omega))⟩ (gc_iI S_55 rfl) ?_
          show gv_X _ _ (179, [(0, .inr (.inr (some 61))), (2, .inl v2_27), (3, .inl v3_45)], [.inl (I43 55 (Int.toNat (((v2_27 * 4) + v3_45)))), .inr (.inr (some 64))], sh, gc_h sh I43 J44 A)
          refine gv_run 1 true hD (pcₚ := 180) (lvₚ := [(0, .inr (.inr (some 61))), (2, .inl v2_27), (3, .inl v3_45)]) (stₚ := [.inl 1, .inl (I43 55 (Int.toNat (((v2_27 * 4) + v3_45)))), .inr (.inr (some 64))]) (hₚ := gc_h sh I43 J44 A) (C := (True ∧ True)) rfl ⟨trivial, trivial⟩ ?_
          have f55 := gz_hi (gw_nar_boolean (x := 1))
          refine gv_zast hD rfl S_64 ⟨by decide, (gz_sh B_64)⟩ ⟨by (/-25-/first | (have o1 := gz_sh f54; omega) | (simp only [gz_hd] at *; omega)), by (/-26-/first | (have o1 := gz_sh f54; omega) | (simp only [gz_hd] at *; omega))⟩ ?_
          refine gc_st hI43 S_64 rfl (gz_sh R_64) (lo := 0) (hi := 1) rfl rfl (by (/-27-/first | (have o1 := gz_sh f55; omega) | (simp only [gz_hd] at *; omega))) (by (/-28-/first | (have o1 := gz_sh f55; omega) | (simp only [gz_hd] at *; omega))) (fun I56 hI56 q57 p57 => ?_)
          have FI56 := gc_frs (W := fun q j => (q = 61 ∧ j = 8) ∨ q = 64 ∨ q = 65 ∨ q = 66 ∨ q = 67) FI43 (Or.inr (Or.inl rfl)) p57
          have t58 := gz_hi (p57 48 3 (fun h => absurd h.1 (by first | exact gz_ne rfl | decide)))
          have t59 := gz_hi (p57 48 6 (fun h => absurd h.1 (by first | exact gz_ne rfl | decide)))
          have t60 := gz_hi (p57 48 10 (fun h => absurd h.1 (by first | exact gz_ne rfl | decide)))
          have t61 := gz_hi (p57 61 8 (fun h => absurd h.1 (by first | exact gz_ne rfl | decide)))
          have t63 := gz_hi (p57 61 2 (fun h => absurd h.1 (by first | exact gz_ne rfl | decide)))
          have KOR_I56 := gc_OR_fr KOR_I43 (p57 61 8 (fun h => absurd h.1 (by first | exact gz_ne rfl | decide))) (p57 61 9 (fun h => absurd h.1 (by first | exact gz_ne rfl | decide))) (p57 48 6 (fun h => absurd h.1 (by first | exact gz_ne rfl | decide))) (fun k => p57 65 k (fun h => absurd h.1 (by first | exact gz_ne rfl | decide))) (fun k => p57 66 k (fun h => absurd h.1 (by first | exact gz_ne rfl | decide)))
          show gv_X _ _ (181, [(0, .inr (.inr (some 61))), (2, .inl v2_27), (3, .inl v3_45)], [], sh, gc_h sh I56 J44 A)
          refine gv_run 2 true hD (pcₚ := 153) (lvₚ := [(3, .inl (v3_45 + 1)), (0, .inr (.inr (some 61))), (2, .inl v2_27)]) (stₚ := []) (hₚ := gc_h sh I56 J44 A) (C := ((True ∧ True) ∧ True)) rfl ⟨⟨trivial, trivial⟩, trivial⟩ ?_
          refine gv_pick [1, 2, 0] rfl ?_
          exact ih153 I56 J44 (v3_45 + 1) (by (/-29-/first | (have o1 := gz_sh hv3_45; have o2 := gz_sh q52; omega) | (simp only [gz_hd] at *; omega))) hI56 FI56 FJ44 KOR_I56 (by (/-30-/first | (and_intros; (have o1 := gz_sh hv2_27_45; omega); (have o1 := gz_sh hv2_27_45; omega); (have o1 := gz_sh hv3_45; omega); (have o1 := gz_sh q52; omega); (have o1 := gz_sh e1_45; have o2 := gz_sh t59; have o3 := gz_sh t61; omega); (have o1 := gz_sh e2_45; have o2 := gz_sh t59; omega); (have o1 := gz_sh hv2_27_45; omega); (have o1 := gz_sh e4_45; have o2 := gz_sh t58; omega); (have o1 := gz_sh e5_45; have o2 := gz_sh t59; omega); (have o1 := gz_sh e6_45; have o2 := gz_sh t60; omega); (have o1 := gz_sh e7_45; have o2 := gz_sh t63; omega)) | (simp only [gz_hd] at *; omega))) (gc_rg_m (gc_rg_fr e0_45 (fun k => p57 67 k (fun h => absurd h.1 (by (/-31-/first | omega | (simp only [gz_hd] at *; omega)))))) (by (/-32-/first | (have o1 := gz_sh t58; omega) | (simp only [gz_hd] at *; omega))))
    refine gv_run 1 true hD (pcₚ := 101) (lvₚ := [(0, .inr (.inr (some 61))), (2, .inl v2_27)]) (stₚ := [.inl v2_27]) (hₚ := gc_h sh I25 J26 A) (C := (True ∧ True)) rfl ⟨trivial, trivial⟩ ?_
    refine gv_if_lt (t := 193) hD rfl rfl ⟨by (/-33-/first | (have o1 := gz_sh hv2_27; omega) | (simp only [gz_hd] at *; omega)), by (/-34-/first | (have o1 := gz_sh hv2_27; omega) | (simp only [gz_hd] at *; omega))⟩ (fun c64 => ?_) (fun c64 => ?_)
    · show gv_X _ _ (193, [(0, .inr (.inr (some 61))), (2, .inl v2_27)], [], sh, gc_h sh I25 J26 A)
      exact gv_vret hD rfl ⟨I25, J26, rfl, hI25, FI25, FJ26, ⟨rfl, KOR_I25, e0_27⟩⟩
    · show gv_X _ _ (104, [(0, .inr (.inr (some 61))), (2, .inl v2_27)], [], sh, gc_h sh I25 J26 A)
      refine gv_run 1 true hD (pcₚ := 105) (lvₚ := [(0, .inr (.inr (some 61))), (2, .inl v2_27)]) (stₚ := [.inr (.inr (some 61))]) (hₚ := gc_h sh I25 J26 A) (C := (True ∧ True)) rfl ⟨trivial, trivial⟩ ?_
      refine gv_get hD rfl rfl S_61 ⟨by decide, (gz_sh B_61)⟩ (gc_hA S_61 rfl A_61_7) ?_
      show gv_X _ _ (108, [(0, .inr (.inr (some 61))), (2, .inl v2_27)], [.inr (.inr (some 64))], sh, gc_h sh I25 J26 A)
      refine gv_run 1 true hD (pcₚ := 109) (lvₚ := [(0, .inr (.inr (some 61))), (2, .inl v2_27)]) (stₚ := [.inr (.inr (some 61)), .inr (.inr (some 64))]) (hₚ := gc_h sh I25 J26 A) (C := (True ∧ True)) rfl ⟨trivial, trivial⟩ ?_
      refine gv_get hD rfl rfl S_61 ⟨by decide, (gz_sh B_61)⟩ (gc_hA S_61 rfl A_61_1) ?_
      show gv_X _ _ (112, [(0, .inr (.inr (some 61))), (2, .inl v2_27)], [.inr (.inr (some 48)), .inr (.inr (some 64))], sh, gc_h sh I25 J26 A)
      refine gv_get hD rfl rfl S_48 ⟨by decide, (gz_sh B_48)⟩ (gc_hA S_48 rfl A_48_7) ?_
      show gv_X _ _ (115, [(0, .inr (.inr (some 61))), (2, .inl v2_27)], [.inr (.inr (some 53)), .inr (.inr (some 64))], sh, gc_h sh I25 J26 A)
      refine gv_run 1 true hD (pcₚ := 116) (lvₚ := [(0, .inr (.inr (some 61))), (2, .inl v2_27)]) (stₚ := [.inl v2_27, .inr (.inr (some 53)), .inr (.inr (some 64))]) (hₚ := gc_h sh I25 J26 A) (C := (True ∧ True)) rfl ⟨trivial, trivial⟩ ?_
      have f65 := gz_hi ((gc_b_44 hI25 (gz_sh R_53) (Int.toNat v2_27)))
      refine gv_iald hD rfl S_53 rfl ⟨by decide, (gz_sh B_53)⟩ ⟨by (/-35-/first | omega | (simp only [gz_hd] at *; omega)), by (/-36-/first | (have o1 := gz_sh hv2_27; omega) | (simp only [gz_hd] at *; omega))⟩ (gc_iI S_53 rfl) ?_
      show gv_X _ _ (117, [(0, .inr (.inr (some 61))), (2, .inl v2_27)], [.inl (I25 53 (Int.toNat v2_27)), .inr (.inr (some 64))], sh, gc_h sh I25 J26 A)
      have f66 := gz_hi ((gc_b_2 hI25 (gz_sh R_64) (Int.toNat ((I25 53 (Int.toNat v2_27))))))
      refine gv_bald hD rfl S_64 (Or.inr rfl) ⟨by decide, (gz_sh B_64)⟩ ⟨by (/-37-/first | (have o1 := gz_sh f65; omega) | (simp only [gz_hd] at *; omega)), by (/-38-/first | (have o1 := gz_sh f65; omega) | (simp only [gz_hd] at *; omega))⟩ (gc_iI S_64 rfl) ?_
      show gv_X _ _ (118, [(0, .inr (.inr (some 61))), (2, .inl v2_27)], [.inl (I25 64 (Int.toNat ((I25 53 (Int.toNat v2_27)))))], sh, gc_h sh I25 J26 A)
      refine gv_if_eq (t := 187) hD rfl rfl ⟨by (/-39-/first | (have o1 := gz_sh f66; omega) | (simp only [gz_hd] at *; omega)), by (/-40-/first | (have o1 := gz_sh f66; omega) | (simp only [gz_hd] at *; omega))⟩ (fun c67 => ?_) (fun c67 => ?_)
      · show gv_X _ _ (187, [(0, .inr (.inr (some 61))), (2, .inl v2_27)], [], sh, gc_h sh I25 J26 A)
        exact L187 I25 J26 hI25 FI25 FJ26 KOR_I25 (by (/-41-/first | (and_intros; (omega); (have o1 := gz_sh hv2_27; omega); (have o1 := gz_sh e1_27; omega); (have o1 := gz_sh e1_27; have o2 := gz_sh f31; omega); (omega); (have o1 := gz_sh e2_27; omega); (have o1 := gz_sh e3_27; omega); (have o1 := gz_sh e4_27; omega); (have o1 := gz_sh e5_27; omega)) | (simp only [gz_hd] at *; omega))) (gc_rg_m e0_27 (by (/-42-/first | omega | (simp only [gz_hd] at *; omega))))
      · show gv_X _ _ (121, [(0, .inr (.inr (some 61))), (2, .inl v2_27)], [], sh, gc_h sh I25 J26 A)
        refine gv_run 1 true hD (pcₚ := 122) (lvₚ := [(0, .inr (.inr (some 61))), (2, .inl v2_27)]) (stₚ := [.inr (.inr (some 61))]) (hₚ := gc_h sh I25 J26 A) (C := (True ∧ True)) rfl ⟨trivial, trivial⟩ ?_
        refine gv_get hD rfl rfl S_61 ⟨by decide, (gz_sh B_61)⟩ (gc_hA S_61 rfl A_61_5) ?_
        show gv_X _ _ (125, [(0, .inr (.inr (some 61))), (2, .inl v2_27)], [.inr (.inr (some 62))], sh, gc_h sh I25 J26 A)
        refine gv_run 2 true hD (pcₚ := 127) (lvₚ := [(0, .inr (.inr (some 61))), (2, .inl v2_27)]) (stₚ := [.inl v2_27, .inr (.inr (some 61)), .inr (.inr (some 62))]) (hₚ := gc_h sh I25 J26 A) (C := ((True ∧ True) ∧ True)) rfl ⟨⟨trivial, trivial⟩, trivial⟩ ?_
        obtain ⟨r68, h68, E68, P68⟩ := d_X5_funOf (ws0 := ws0) (tb := tb) hws htb sh ro I25 J26 A hI25  t v2_27 hb  h_t G_t  ⟨by (/-43-/first | omega | (simp only [gz_hd] at *; omega)), by (/-44-/first | (have o1 := gz_sh hv2_27; omega) | (simp only [gz_hd] at *; omega))⟩ (gc_Ls_fr x0 ((FI25 t 13).resolve_left (by (/-45-/first | (have o1 := gz_sh B_t; have o2 := gz_sh B_t_10; have o3 := gz_sh B_t_13; have o4 := gz_sh B_t_14; have o5 := gz_sh B_t_15; have o6 := gz_sh B_t_16; have o7 := gz_sh B_t_17; have o8 := gz_sh B_t_17_1; have o9 := gz_sh B_t_17_2; have o10 := gz_sh B_t_17_3; have o11 := gz_sh B_t_17_4; have o12 := gz_sh B_t_17_5; have o13 := gz_sh B_t_17_6; have o14 := gz_sh B_t_17_7; have o15 := gz_sh B_t_5; have o16 := gz_sh B_t_6; have o17 := gz_sh B_t_9; have o18 := gz_sh e5_27; omega) | (simp only [gz_hd] at *; omega)))) (fun q hL hq d k hd => (FI25 (q + d) k).resolve_left (by have := gc_dj_LT hL h_t; (/-46-/first | omega | (simp only [gz_hd] at *; omega))))) (gc_WV_fr x1 ((FI25 48 6).resolve_left (fun h => h.elim (fun h => absurd h.2 (by first | exact gz_ne rfl | decide)) (fun h => h.elim (fun h => absurd h (by first | exact gz_ne rfl | decide)) (fun h => h.elim (fun h => absurd h (by first | exact gz_ne rfl | decide)) (fun h => h.elim (fun h => absurd h (by first | exact gz_ne rfl | decide)) (fun h => absurd h (by first | exact gz_ne rfl | decide))))))) ((FI25 t 13).resolve_left (fun h => h.elim (fun h => absurd h.2 (by first | exact gz_ne rfl | decide)) (fun h => h.elim (fun h => absurd h (gz_sh N_t__64)) (fun h => h.elim (fun h => absurd h (gz_sh N_t__65)) (fun h => h.elim (fun h => absurd h (gz_sh N_t__66)) (fun h => absurd h (gz_sh N_t__67))))))) (fun k => (FI25 54 k).resolve_left (fun h => h.elim (fun h => absurd h.1 (by first | exact gz_ne rfl | decide)) (fun h => h.elim (fun h => absurd h (by first | exact gz_ne rfl | decide)) (fun h => h.elim (fun h => absurd h (by first | exact gz_ne rfl | decide)) (fun h => h.elim (fun h => absurd h (by first | exact gz_ne rfl | decide)) (fun h => absurd h (by first | exact gz_ne rfl | decide)))))))) (by (/-47-/first | (have o1 := gz_sh e1_27; have o2 := gz_sh f31; omega) | (simp only [gz_hd] at *; omega))) (by (/-48-/first | (have o1 := gz_sh e5_27; omega) | (simp only [gz_hd] at *; omega))) 
        obtain ⟨rfl, ⟨z68, rfl, q68⟩⟩ := P68
        replace q68 := gz_hi q68
        refine gv_callV hD rfl (As := [.inl v2_27]) (st := [.inr (.inr (some 62))]) rfl (gz_sh B_61) S_61 rfl (gc_lV5 hws rfl) (Nat.le_of_ble_eq_true rfl) (gz_Ev_mono (d := 2) (by decide) E68) ?_
        show gv_X _ _ (130, [(0, .inr (.inr (some 61))), (2, .inl v2_27)], [.inl z68, .inr (.inr (some 62))], sh, gc_h sh I25 J26 A)
        have f69 := gz_hi ((gc_b_2 hI25 (gz_sh R_62) (Int.toNat z68)))
        refine gv_bald hD rfl S_62 (Or.inr rfl) ⟨by decide, (gz_sh B_62)⟩ ⟨by (/-49-/first | (have o1 := gz_sh q68; omega) | (simp only [gz_hd] at *; omega)), by (/-50-/first | (have o1 := gz_sh q68; omega) | (simp only [gz_hd] at *; omega))⟩ (gc_iI S_62 rfl) ?_
        show gv_X _ _ (131, [(0, .inr (.inr (some 61))), (2, .inl v2_27)], [.inl (I25 62 (Int.toNat z68))], sh, gc_h sh I25 J26 A)
        refine gv_if_ne (t := 187) hD rfl rfl ⟨by (/-51-/first | (have o1 := gz_sh f69; omega) | (simp only [gz_hd] at *; omega)), by (/-52-/first | (have o1 := gz_sh f69; omega) | (simp only [gz_hd] at *; omega))⟩ (fun c70 => ?_) (fun c70 => ?_)
        · show gv_X _ _ (187, [(0, .inr (.inr (some 61))), (2, .inl v2_27)], [], sh, gc_h sh I25 J26 A)
          exact L187 I25 J26 hI25 FI25 FJ26 KOR_I25 (by (/-53-/first | (and_intros; (omega); (have o1 := gz_sh hv2_27; omega); (have o1 := gz_sh e1_27; omega); (have o1 := gz_sh e1_27; have o2 := gz_sh f31; omega); (omega); (have o1 := gz_sh e2_27; omega); (have o1 := gz_sh e3_27; omega); (have o1 := gz_sh e4_27; omega); (have o1 := gz_sh e5_27; omega)) | (simp only [gz_hd] at *; omega))) (gc_rg_m e0_27 (by (/-54-/first | omega | (simp only [gz_hd] at *; omega))))
        · show gv_X _ _ (134, [(0, .inr (.inr (some 61))), (2, .inl v2_27)], [], sh, gc_h sh I25 J26 A)
          refine gv_run 1 true hD (pcₚ := 135) (lvₚ := [(0, .inr (.inr (some 61))), (2, .inl v2_27)]) (stₚ := [.inr (.inr (some 61))]) (hₚ := gc_h sh I25 J26 A) (C := (True ∧ True)) rfl ⟨trivial, trivial⟩ ?_
          obtain ⟨f71_, hq_f71_, S_f71, R_f71, B_f71, D_f71⟩ := gc_sw (p := 61) (d := 4) (s := 1) (z := I25 61 9) (gc_b_72_9 hI25 (gz_sh R_61)) S_65 (gz_sh R_65) (gz_sh B_65) S_66 (gz_sh R_66) (gz_sh B_66)
          refine gv_get hD rfl rfl S_61 ⟨by decide, (gz_sh B_61)⟩ (gc_hS (n := 4) S_61 rfl hq_f71_) ?_
          show gv_X _ _ (138, [(0, .inr (.inr (some 61))), (2, .inl v2_27)], [.inr (.inr (some f71_))], sh, gc_h sh I25 J26 A)
          refine gv_run 2 true hD (pcₚ := 140) (lvₚ := [(0, .inr (.inr (some 61))), (2, .inl v2_27)]) (stₚ := [.inr (.inr (some 61)), .inr (.inr (some 61)), .inr (.inr (some f71_))]) (hₚ := gc_h sh I25 J26 A) (C := ((True ∧ True) ∧ True)) rfl ⟨⟨trivial, trivial⟩, trivial⟩ ?_
          refine gv_get hD rfl rfl S_61 ⟨by decide, (gz_sh B_61)⟩ (gc_hI S_61 rfl) ?_
          show gv_X _ _ (143, [(0, .inr (.inr (some 61))), (2, .inl v2_27)], [.inl (I25 61 8), .inr (.inr (some 61)), .inr (.inr (some f71_))], sh, gc_h sh I25 J26 A)
          refine gv_run 3 true hD (pcₚ := 146) (lvₚ := [(0, .inr (.inr (some 61))), (2, .inl v2_27)]) (stₚ := [.inl ((I25 61 8) + 1), .inr (.inr (some 61)), .inl (I25 61 8), .inr (.inr (some f71_))]) (hₚ := gc_h sh I25 J26 A) (C := (((True ∧ True) ∧ True) ∧ True)) rfl ⟨⟨⟨trivial, trivial⟩, trivial⟩, trivial⟩ ?_
          refine gv_put hD rfl rfl S_61 ⟨by decide, (gz_sh B_61)⟩ rfl trivial ?_
          refine gc_st (k := 8) hI25 S_61 rfl (gz_sh R_61) (lo := 0) (hi := 9000) rfl rfl (by (/-55-/first | (have o1 := gz_sh f31; omega) | (simp only [gz_hd] at *; omega))) (by (/-56-/first | (have o1 := gz_sh e1_27; have o2 := gz_sh e3_27; have o3 := gz_sh f2; omega) | (simp only [gz_hd] at *; omega))) (fun I74 hI74 q75 p75 => ?_)
          have FI74 := gc_frs (W := fun q j => (q = 61 ∧ j = 8) ∨ q = 64 ∨ q = 65 ∨ q = 66 ∨ q = 67) FI25 (Or.inl ⟨rfl, rfl⟩) p75
          have t76 := gz_hi (p75 48 3 (fun h => absurd h.2 (by first | exact gz_ne rfl | decide)))
          have t77 := gz_hi (p75 48 6 (fun h => absurd h.2 (by first | exact gz_ne rfl | decide)))
          have t78 := gz_hi (p75 48 10 (fun h => absurd h.2 (by first | exact gz_ne rfl | decide)))
          have t80 := gz_hi (p75 61 2 (fun h => absurd h.2 (by first | exact gz_ne rfl | decide)))
          have f81 := gz_hi ((gc_b_72_8 hI74 (gz_sh R_61)))
          show gv_X _ _ (149, [(0, .inr (.inr (some 61))), (2, .inl v2_27)], [.inl (I25 61 8), .inr (.inr (some f71_))], sh, gc_h sh I74 J26 A)
          refine gv_run 1 true hD (pcₚ := 150) (lvₚ := [(0, .inr (.inr (some 61))), (2, .inl v2_27)]) (stₚ := [.inl v2_27, .inl (I25 61 8), .inr (.inr (some f71_))]) (hₚ := gc_h sh I74 J26 A) (C := (True ∧ True)) rfl ⟨trivial, trivial⟩ ?_
          refine gv_iast hD rfl S_f71 ⟨by decide, B_f71⟩ ⟨by (/-57-/first | (have o1 := gz_sh f31; omega) | (simp only [gz_hd] at *; omega)), by (/-58-/first | (have o1 := gz_sh f81; omega) | (simp only [gz_hd] at *; omega))⟩ ?_
          refine gc_st hI74 S_f71 rfl R_f71 (lo := 0) (hi := 8999) rfl rfl (by (/-59-/first | omega | (simp only [gz_hd] at *; omega))) (by (/-60-/first | (have o1 := gz_sh hv2_27; omega) | (simp only [gz_hd] at *; omega))) (fun I82 hI82 q83 p83 => ?_)
          have FI82 := gc_frs (W := fun q j => (q = 61 ∧ j = 8) ∨ q = 64 ∨ q = 65 ∨ q = 66 ∨ q = 67) FI74 (show (f71_ = 61 ∧ (Int.toNat (I25 61 8)) = 8) ∨ f71_ = 64 ∨ f71_ = 65 ∨ f71_ = 66 ∨ f71_ = 67 from by (/-61-/first | omega | (simp only [gz_hd] at *; omega))) p83
          have t84 := gz_hi (p83 48 3 (fun h => absurd h.1 (by (/-62-/first | omega | (simp only [gz_hd] at *; omega)))))
          have t85 := gz_hi (p83 48 6 (fun h => absurd h.1 (by (/-63-/first | omega | (simp only [gz_hd] at *; omega)))))
          have t86 := gz_hi (p83 48 10 (fun h => absurd h.1 (by (/-64-/first | omega | (simp only [gz_hd] at *; omega)))))
          have t87 := gz_hi (p83 61 8 (fun h => absurd h.1 (by (/-65-/first | omega | (simp only [gz_hd] at *; omega)))))
          have t89 := gz_hi (p83 61 2 (fun h => absurd h.1 (by (/-67-/first | omega | (simp only [gz_hd] at *; omega)))))
          have KOR_I82 : gc_OR I82 := gc_OR_push KOR_I25 (by (/-68-/first | (have o1 := gz_sh f31; omega) | (simp only [gz_hd] at *; omega))) p75 q75 p83 hq_f71_ (by (/-69-/first | (have o1 := gz_sh e1_27; have o2 := gz_sh f31; have o3 := gz_sh t77; have o4 := gz_sh t85; omega) | (simp only [gz_hd] at *; omega)))
          show gv_X _ _ (151, [(0, .inr (.inr (some 61))), (2, .inl v2_27)], [], sh, gc_h sh I82 J26 A)
          refine gv_run 2 true hD (pcₚ := 153) (lvₚ := [(3, .inl 0), (0, .inr (.inr (some 61))), (2, .inl v2_27)]) (stₚ := []) (hₚ := gc_h sh I82 J26 A) (C := ((True ∧ True) ∧ True)) rfl ⟨⟨trivial, trivial⟩, trivial⟩ ?_
          refine gv_pick [1, 2, 0] rfl ?_
          exact L153 _ I82 J26 0 (Nat.lt_succ_self _) hI82 FI82 FJ26 KOR_I82 (by (/-70-/first | (and_intros; (omega); (have o1 := gz_sh hv2_27; omega); (omega); (omega); (have o1 := gz_sh e1_27; have o2 := gz_sh t77; have o3 := gz_sh t85; have o4 := gz_sh t87; omega); (have o1 := gz_sh e1_27; have o2 := gz_sh f31; have o3 := gz_sh t77; have o4 := gz_sh t85; omega); (omega); (have o1 := gz_sh e2_27; have o2 := gz_sh t76; have o3 := gz_sh t84; omega); (have o1 := gz_sh e3_27; have o2 := gz_sh t77; have o3 := gz_sh t85; omega); (have o1 := gz_sh e4_27; have o2 := gz_sh t78; have o3 := gz_sh t86; omega); (have o1 := gz_sh e5_27; have o2 := gz_sh t80; have o3 := gz_sh t89; omega)) | (simp only [gz_hd] at *; omega))) (gc_rg_m (gc_rg_fr (gc_rg_fr e0_27 (fun k => p75 67 k (fun h => absurd h.1 (by (/-71-/first | omega | (simp only [gz_hd] at *; omega)))))) (fun k => p83 67 k (fun h => absurd h.1 (by (/-72-/first | omega | (simp only [gz_hd] at *; omega)))))) (by (/-73-/first | (have o1 := gz_sh t76; have o2 := gz_sh t84; omega) | (simp only [gz_hd] at *; omega))))
set_option maxHeartbeats 8000000 in
set_option maxRecDepth 100000 in
theorem d_X5_reach {ws0 : List Cond} {tb : String → gz_T} (hws : gc_Ws ws0) (htb : gc_tbs tb) (sh : gz_Sh) (ro : Nat → Nat) (I : gr_I) (J : gr_J) (A : gc_A) (hI : gc_Inv ro I) (t : Nat)  (hb : gc_Base sh ro A) (h_t : gc_isTongue sh ro A t) (G_t : 144 ≤ t)  (x0 : gc_Ls sh ro A t I) (x1 : gc_WV t I) (x2 : gc_FN I) (x3 : I 61 2 = (t : Int)) : ∃ r hₚ, gz_Ev ws0 tb 3 (yX5_reach, cX5_reach, 4, none) [.inr (.inr (some 61))] sh (gc_h sh I J A) r sh hₚ 0 0 ∧ (∃ (Iₚ : gr_I) (Jₚ : gr_J), hₚ = gc_h sh Iₚ Jₚ A ∧ gc_Inv ro Iₚ ∧ (∀ q j : Nat, ((q = 61 ∧ j = 8) ∨ q = 64 ∨ q = 65 ∨ q = 66 ∨ q = 67) ∨ Iₚ q j = I q j) ∧ (∀ q j : Nat, (False) ∨ Jₚ q j = J q j) ∧ r = none ∧ (gc_OR Iₚ) ∧ (gc_rg 67 Iₚ (Iₚ 48 3) 0 0)) := by
  have FI : ∀ q j : Nat, ((q = 61 ∧ j = 8) ∨ q = 64 ∨ q = 65 ∨ q = 66 ∨ q = 67) ∨ I q j = I q j := fun _ _ => Or.inr rfl
  have FJ : ∀ q j : Nat, (False) ∨ J q j = J q j := fun _ _ => Or.inr rfl
  have A_48_1 : A 48 1 = some 49 := gc_bA_48_1 hb
  have A_48_2 : A 48 2 = some 50 := gc_bA_48_2 hb
  have A_48_7 : A 48 7 = some 53 := gc_bA_48_7 hb
  have A_48_9 : A 48 9 = some 55 := gc_bA_48_9 hb
  have A_61_1 : A 61 1 = some 48 := gc_bA_61_1 hb
  have A_61_11 : A 61 11 = some 67 := gc_bA_61_11 hb
  have A_61_5 : A 61 5 = some 62 := gc_bA_61_5 hb
  have A_61_7 : A 61 7 = some 64 := gc_bA_61_7 hb
  have B_48 := gz_hi (show 48 < 1000000 from by decide)
  have B_49 := gz_hi (show 49 < 1000000 from by decide)
  have B_50 := gz_hi (show 50 < 1000000 from by decide)
  have B_53 := gz_hi (show 53 < 1000000 from by decide)
  have B_55 := gz_hi (show 55 < 1000000 from by decide)
  have B_61 := gz_hi (show 61 < 1000000 from by decide)
  have B_62 := gz_hi (show 62 < 1000000 from by decide)
  have B_64 := gz_hi (show 64 < 1000000 from by decide)
  have B_65 := gz_hi (show 65 < 1000000 from by decide)
  have B_66 := gz_hi (show 66 < 1000000 from by decide)
  have B_67 := gz_hi (show 67 < 1000000 from by decide)
  have R_48 := gz_hi (show ro 48 = 49 from gc_bR_48 hb)
  have R_49 := gz_hi (show ro 49 = 43 from gc_bR_49 hb)
  have R_50 := gz_hi (show ro 50 = 43 from gc_bR_50 hb)
  have R_53 := gz_hi (show ro 53 = 44 from gc_bR_53 hb)
  have R_55 := gz_hi (show ro 55 = 44 from gc_bR_55 hb)
  have R_61 := gz_hi (show ro 61 = 72 from gc_bR_61 hb)
  have R_62 := gz_hi (show ro 62 = 2 from gc_bR_62 hb)
  have R_64 := gz_hi (show ro 64 = 2 from gc_bR_64 hb)
  have R_65 := gz_hi (show ro 65 = 51 from gc_bR_65 hb)
  have R_66 := gz_hi (show ro 66 = 51 from gc_bR_66 hb)
  have R_67 := gz_hi (show ro 67 = 52 from gc_bR_67 hb)
  have S_48 : sh[48]? = some (false, 0, 22) := gc_bS_48 hb
  have S_49 : sh[49]? = some (true, 1, 18432) := gc_bS_49 hb
  have S_50 : sh[50]? = some (true, 1, 18432) := gc_bS_50 hb
  have S_53 : sh[53]? = some (true, 1, 9000) := gc_bS_53 hb
  have S_55 : sh[55]? = some (true, 1, 36000) := gc_bS_55 hb
  have S_61 : sh[61]? = some (false, 5, 19) := gc_bS_61 hb
  have S_62 : sh[62]? = some (true, 3, 96) := gc_bS_62 hb
  have S_64 : sh[64]? = some (true, 3, 3000) := gc_bS_64 hb
  have S_65 : sh[65]? = some (true, 1, 9000) := gc_bS_65 hb
  have S_66 : sh[66]? = some (true, 1, 9000) := gc_bS_66 hb
  have S_67 : sh[67]? = some (true, 1, 3000) := gc_bS_67 hb
  obtain ⟨S_t, R_t, B_t, A_t_0, h_t_1, A_t_1, h_t_3, A_t_2, S_t_5, R_t_5, B_t_5, A_t_3, S_t_6, R_t_6, B_t_6, A_t_4, h_t_7, A_t_5, S_t_9, R_t_9, B_t_9, A_t_7, S_t_10, R_t_10, B_t_10, A_t_8, h_t_11, A_t_9, S_t_13, R_t_13, B_t_13, A_t_10, S_t_14, R_t_14, B_t_14, A_t_12, S_t_15, R_t_15, B_t_15, A_t_14, S_t_16, R_t_16, B_t_16, A_t_15, h_t_17⟩ := id h_t
  replace R_t := gz_hi R_t
  replace B_t := gz_hi B_t
  replace R_t_5 := gz_hi R_t_5
  replace B_t_5 := gz_hi B_t_5
  replace R_t_6 := gz_hi R_t_6
  replace B_t_6 := gz_hi B_t_6
  replace R_t_9 := gz_hi R_t_9
  replace B_t_9 := gz_hi B_t_9
  replace R_t_10 := gz_hi R_t_10
  replace B_t_10 := gz_hi B_t_10
  replace R_t_13 := gz_hi R_t_13
  replace B_t_13 := gz_hi B_t_13
  replace R_t_14 := gz_hi R_t_14
  replace B_t_14 := gz_hi B_t_14
  replace R_t_15 := gz_hi R_t_15
  replace B_t_15 := gz_hi B_t_15
  replace R_t_16 := gz_hi R_t_16
  replace B_t_16 := gz_hi B_t_16
  obtain ⟨S_t_1, R_t_1, B_t_1, A_t_1_0, S_t_1_1, R_t_1_1, B_t_1_1, Q0_t_1, Q1_t_1, Q2_t_1⟩ := id h_t_1
  replace R_t_1 := gz_hi R_t_1
  replace B_t_1 := gz_hi B_t_1
  replace R_t_1_1 := gz_hi R_t_1_1
  replace B_t_1_1 := gz_hi B_t_1_1
  obtain ⟨S_t_3, R_t_3, B_t_3, A_t_3_0, S_t_3_1, R_t_3_1, B_t_3_1, Q0_t_3, Q1_t_3, Q2_t_3⟩ := id h_t_3
  replace R_t_3 := gz_hi R_t_3
  replace B_t_3 := gz_hi B_t_3
  replace R_t_3_1 := gz_hi R_t_3_1
  replace B_t_3_1 := gz_hi B_t_3_1
  obtain ⟨S_t_7, R_t_7, B_t_7, A_t_7_0, S_t_7_1, R_t_7_1, B_t_7_1, Q0_t_7, Q1_t_7, Q2_t_7⟩ := id h_t_7
  replace R_t_7 := gz_hi R_t_7
  replace B_t_7 := gz_hi B_t_7
  replace R_t_7_1 := gz_hi R_t_7_1
  replace B_t_7_1 := gz_hi B_t_7_1
  obtain ⟨S_t_11, R_t_11, B_t_11, A_t_11_0, S_t_11_1, R_t_11_1, B_t_11_1, Q0_t_11, Q1_t_11, Q2_t_11⟩ := id h_t_11
  replace R_t_11 := gz_hi R_t_11
  replace B_t_11 := gz_hi B_t_11
  replace R_t_11_1 := gz_hi R_t_11_1
  replace B_t_11_1 := gz_hi B_t_11_1
  obtain ⟨S_t_17, R_t_17, B_t_17, A_t_17_0, S_20, R_20, B_20, A_t_17_1, S_t_17_1, R_t_17_1, B_t_17_1, A_t_17_2, S_t_17_2, R_t_17_2, B_t_17_2, A_t_17_3, S_t_17_3, R_t_17_3, B_t_17_3, A_t_17_4, S_t_17_4, R_t_17_4, B_t_17_4, A_t_17_5, S_t_17_5, R_t_17_5, B_t_17_5, S_t_17_6, R_t_17_6, B_t_17_6, S_t_17_7, R_t_17_7, B_t_17_7⟩ := id h_t_17
  replace R_t_17 := gz_hi R_t_17
  replace B_t_17 := gz_hi B_t_17
  replace R_20 := gz_hi R_20
  replace B_20 := gz_hi B_20
  replace R_t_17_1 := gz_hi R_t_17_1
  replace B_t_17_1 := gz_hi B_t_17_1
  replace R_t_17_2 := gz_hi R_t_17_2
  replace B_t_17_2 := gz_hi B_t_17_2
  replace R_t_17_3 := gz_hi R_t_17_3
  replace B_t_17_3 := gz_hi B_t_17_3
  replace R_t_17_4 := gz_hi R_t_17_4
  replace B_t_17_4 := gz_hi B_t_17_4
  replace R_t_17_5 := gz_hi R_t_17_5
  replace B_t_17_5 := gz_hi B_t_17_5
  replace R_t_17_6 := gz_hi R_t_17_6
  replace B_t_17_6 := gz_hi B_t_17_6
  replace R_t_17_7 := gz_hi R_t_17_7
  replace B_t_17_7 := gz_hi B_t_17_7
  have hD : gv_D (gc_E5 ws0 tb 2 (yX5_reach, cX5_reach, 4, none) kX5_reach) := gq_of oX5_reach
  refine gc_ev5 (d := 2) (l := kX5_reach) (Po := fun r hₚ => (∃ (Iₚ : gr_I) (Jₚ : gr_J), hₚ = gc_h sh Iₚ Jₚ A ∧ gc_Inv ro Iₚ ∧ (∀ q j : Nat, ((q = 61 ∧ j = 8) ∨ q = 64 ∨ q = 65 ∨ q = 66 ∨ q = 67) ∨ Iₚ q j = I q j) ∧ (∀ q j : Nat, (False) ∨ Jₚ q j = J q j) ∧ r = none ∧ (gc_OR Iₚ) ∧ (gc_rg 67 Iₚ (Iₚ 48 3) 0 0))) htb rfl (Nat.le_of_ble_eq_true rfl) ?_
  have N_t__64 := gz_hi (show ¬ (t = 64) from by (/-0-/first | (have o1 := gz_sh B_t; have o2 := gz_sh B_t_10; have o3 := gz_sh B_t_13; have o4 := gz_sh B_t_14; have o5 := gz_sh B_t_15; have o6 := gz_sh B_t_16; have o7 := gz_sh B_t_17; have o8 := gz_sh B_t_17_1; have o9 := gz_sh B_t_17_2; have o10 := gz_sh B_t_17_3; have o11 := gz_sh B_t_17_4; have o12 := gz_sh B_t_17_5; have o13 := gz_sh B_t_17_6; have o14 := gz_sh B_t_17_7; have o15 := gz_sh B_t_5; have o16 := gz_sh B_t_6; have o17 := gz_sh B_t_9; omega) | (simp only [gz_hd] at *; omega)))
  have N_t__65 := gz_hi (show ¬ (t = 65) from by (/-1-/first | (have o1 := gz_sh B_t; have o2 := gz_sh B_t_10; have o3 := gz_sh B_t_13; have o4 := gz_sh B_t_14; have o5 := gz_sh B_t_15; have o6 := gz_sh B_t_16; have o7 := gz_sh B_t_17; have o8 := gz_sh B_t_17_1; have o9 := gz_sh B_t_17_2; have o10 := gz_sh B_t_17_3; have o11 := gz_sh B_t_17_4; have o12 := gz_sh B_t_17_5; have o13 := gz_sh B_t_17_6; have o14 := gz_sh B_t_17_7; have o15 := gz_sh B_t_5; have o16 := gz_sh B_t_6; have o17 := gz_sh B_t_9; omega) | (simp only [gz_hd] at *; omega)))
  have N_t__66 := gz_hi (show ¬ (t = 66) from by (/-2-/first | (have o1 := gz_sh B_t; have o2 := gz_sh B_t_10; have o3 := gz_sh B_t_13; have o4 := gz_sh B_t_14; have o5 := gz_sh B_t_15; have o6 := gz_sh B_t_16; have o7 := gz_sh B_t_17; have o8 := gz_sh B_t_17_1; have o9 := gz_sh B_t_17_2; have o10 := gz_sh B_t_17_3; have o11 := gz_sh B_t_17_4; have o12 := gz_sh B_t_17_5; have o13 := gz_sh B_t_17_6; have o14 := gz_sh B_t_17_7; have o15 := gz_sh B_t_5; have o16 := gz_sh B_t_6; have o17 := gz_sh B_t_9; omega) | (simp only [gz_hd] at *; omega)))
  have N_t__67 := gz_hi (show ¬ (t = 67) from by (/-3-/first | (have o1 := gz_sh B_t; have o2 := gz_sh B_t_10; have o3 := gz_sh B_t_13; have o4 := gz_sh B_t_14; have o5 := gz_sh B_t_15; have o6 := gz_sh B_t_16; have o7 := gz_sh B_t_17; have o8 := gz_sh B_t_17_1; have o9 := gz_sh B_t_17_2; have o10 := gz_sh B_t_17_3; have o11 := gz_sh B_t_17_4; have o12 := gz_sh B_t_17_5; have o13 := gz_sh B_t_17_6; have o14 := gz_sh B_t_17_7; have o15 := gz_sh B_t_5; have o16 := gz_sh B_t_6; have o17 := gz_sh B_t_9; omega) | (simp only [gz_hd] at *; omega)))
  have f1 := gz_hi ((gc_b_49_3 hI (gz_sh R_48)))
  have f2 := gz_hi ((gc_b_49_6 hI (gz_sh R_48)))
  have f3 := gz_hi ((gc_b_49_10 hI (gz_sh R_48)))
  have L2 : ∀ (n9 : Nat) (I7 : gr_I) (J8 : gr_J) (v1_9 : Int), (3001 - v1_9).toNat < n9 → gc_Inv ro I7 → (∀ q j : Nat, ((q = 61 ∧ j = 8) ∨ q = 64 ∨ q = 65 ∨ q = 66 ∨ q = 67) ∨ I7 q j = I q j) → (∀ q j : Nat, (False) ∨ J8 q j = J q j) → ((0 ≤ v1_9 ∧ v1_9 ≤ 3000) ∧ (v1_9 ≤ I7 48 3) ∧ (I7 48 3 = I 48 3) ∧ (I7 48 6 = I 48 6) ∧ (I7 48 10 = I 48 10) ∧ (I7 61 2 = (t : Int))) → (gc_rg 67 I7 v1_9 0 0) → gv_X (gc_E5 ws0 tb 2 (yX5_reach, cX5_reach, 4, none) kX5_reach) (gv_Q cX5_reach none sh (fun r hₚ => (∃ (Iₚ : gr_I) (Jₚ : gr_J), hₚ = gc_h sh Iₚ Jₚ A ∧ gc_Inv ro Iₚ ∧ (∀ q j : Nat, ((q = 61 ∧ j = 8) ∨ q = 64 ∨ q = 65 ∨ q = 66 ∨ q = 67) ∨ Iₚ q j = I q j) ∧ (∀ q j : Nat, (False) ∨ Jₚ q j = J q j) ∧ r = none ∧ (gc_OR Iₚ) ∧ (gc_rg 67 Iₚ (Iₚ 48 3) 0 0)))) (2, [(0, .inr (.inr (some 61))), (1, .inl v1_9)], [], sh, gc_h sh I7 J8 A) := by
    intro n9
    induction n9 with
    | zero => intro I7 J8 v1_9 hn; (/-4-/first | omega | (simp only [gz_hd] at *; omega))
    | succ n9 ih2 =>
      intro I7 J8 v1_9 hn hI7 FI7 FJ8 m_9 e0_9
      obtain ⟨hv1_9, e1_9, e2_9, e3_9, e4_9, e5_9⟩ := gz_h6 m_9
      have L51 : ∀ (n9 : Nat) (I16 : gr_I) (J17 : gr_J) (v1_18 : Int) (v2_18 : Int), (3001 - v2_18).toNat < n9 → gc_Inv ro I16 → (∀ q j : Nat, ((q = 61 ∧ j = 8) ∨ q = 64 ∨ q = 65 ∨ q = 66 ∨ q = 67) ∨ I16 q j = I q j) → (∀ q j : Nat, (False) ∨ J17 q j = J q j) → ((0 ≤ v1_18 ∧ v1_18 ≤ 3000) ∧ (0 ≤ v2_18 ∧ v2_18 ≤ 3000) ∧ (v1_18 = I 49 (Int.toNat (I 48 10))) ∧ (v1_18 ≤ v2_18) ∧ (I16 48 3 = I 48 3) ∧ (I16 48 6 = I 48 6) ∧ (I16 48 10 = I 48 10) ∧ (I16 61 2 = (t : Int))) → (gc_rg 67 I16 (I16 48 3) 0 0) → gv_X (gc_E5 ws0 tb 2 (yX5_reach, cX5_reach, 4, none) kX5_reach) (gv_Q cX5_reach none sh (fun r hₚ => (∃ (Iₚ : gr_I) (Jₚ : gr_J), hₚ = gc_h sh Iₚ Jₚ A ∧ gc_Inv ro Iₚ ∧ (∀ q j : Nat, ((q = 61 ∧ j = 8) ∨ q = 64 ∨ q = 65 ∨ q = 66 ∨ q = 67) ∨ Iₚ q j = I q j) ∧ (∀ q j : Nat, (False) ∨ Jₚ q j = J q j) ∧ r = none ∧ (gc_OR Iₚ) ∧ (gc_rg 67 Iₚ (Iₚ 48 3) 0 0)))) (51, [(0, .inr (.inr (some 61))), (1, .inl v1_18), (2, .inl v2_18)], [], sh, gc_h sh I16 J17 A) := by
        intro n9
        induction n9 with
        | zero => intro I16 J17 v1_18 v2_18 hn; (/-5-/first | omega | (simp only [gz_hd] at *; omega))
        | succ n9 ih51 =>
          intro I16 J17 v1_18 v2_18 hn hI16 FI16 FJ17 m_18 e0_18
          clear hv1_9 e1_9 e2_9 e3_9 e4_9 e5_9
          obtain ⟨hv1_18, hv2_18, e1_18, e2_18, e3_18, e4_18, e5_18, e6_18⟩ := gz_h8 m_18
          have f23 := gz_hi ((gc_b_72_9 hI16 (gz_sh R_61)))
          have L100 : ∀ (n9 : Nat) (I25 : gr_I) (J26 : gr_J) (v2_27 : Int), (v2_27 - (-2)).toNat < n9 → gc_Inv ro I25 → (∀ q j : Nat, ((q = 61 ∧ j = 8) ∨ q = 64 ∨ q = 65 ∨ q = 66 ∨ q = 67) ∨ I25 q j = I q j) → (∀ q j : Nat, (False) ∨ J26 q j = J q j) → gc_OR I25 → (((-1) ≤ v2_27 ∧ v2_27 ≤ 8999) ∧ (I25 61 8 + v2_27 + 1 ≤ I25 48 6) ∧ (I25 48 3 = I 48 3) ∧ (I25 48 6 = I 48 6) ∧ (I25 48 10 = I 48 10) ∧ (I25 61 2 = (t : Int))) → (gc_rg 67 I25 (I25 48 3) 0 0) → gv_X (gc_E5 ws0 tb 2 (yX5_reach, cX5_reach, 4, none) kX5_reach) (gv_Q cX5_reach none sh (fun r hₚ => (∃ (Iₚ : gr_I) (Jₚ : gr_J), hₚ = gc_h sh Iₚ Jₚ A ∧ gc_Inv ro Iₚ ∧ (∀ q j : Nat, ((q = 61 ∧ j = 8) ∨ q = 64 ∨ q = 65 ∨ q = 66 ∨ q = 67) ∨ Iₚ q j = I q j) ∧ (∀ q j : Nat, (False) ∨ Jₚ q j = J q j) ∧ r = none ∧ (gc_OR Iₚ) ∧ (gc_rg 67 Iₚ (Iₚ 48 3) 0 0)))) (100, [(0, .inr (.inr (some 61))), (2, .inl v2_27)], [], sh, gc_h sh I25 J26 A) := d_X5_reach_L100 (ws0 := ws0) (tb := tb) hws htb sh ro I J A hI t hb h_t G_t x0 x1 x2 x3
          have t90 := gz_hi (x2 (Int.toNat (I 48 10)) (by (/-74-/first | (have o1 := gz_sh e5_18; have o2 := gz_sh f3; omega) | (simp only [gz_hd] at *; omega))))
          refine gv_run 3 true hD (pcₚ := 54) (lvₚ := [(0, .inr (.inr (some 61))), (1, .inl v1_18), (2, .inl v2_18)]) (stₚ := [.inr (.inr (some 61)), .inl v1_18, .inl v2_18]) (hₚ := gc_h sh I16 J17 A) (C := (((True ∧ True) ∧ True) ∧ True)) rfl ⟨⟨⟨trivial, trivial⟩, trivial⟩, trivial⟩ ?_
          refine gv_get hD rfl rfl S_61 ⟨by decide, (gz_sh B_61)⟩ (gc_hA S_61 rfl A_61_1) ?_
          show gv_X _ _ (57, [(0, .inr (.inr (some 61))), (1, .inl v1_18), (2, .inl v2_18)], [.inr (.inr (some 48)), .inl v1_18, .inl v2_18], sh, gc_h sh I16 J17 A)
          refine gv_get hD rfl rfl S_48 ⟨by decide, (gz_sh B_48)⟩ (gc_hA S_48 rfl A_48_2) ?_
          show gv_X _ _ (60, [(0, .inr (.inr (some 61))), (1, .inl v1_18), (2, .inl v2_18)], [.inr (.inr (some 50)), .inl v1_18, .inl v2_18], sh, gc_h sh I16 J17 A)
          refine gv_run 1 true hD (pcₚ := 61) (lvₚ := [(0, .inr (.inr (some 61))), (1, .inl v1_18), (2, .inl v2_18)]) (stₚ := [.inr (.inr (some 61)), .inr (.inr (some 50)), .inl v1_18, .inl v2_18]) (hₚ := gc_h sh I16 J17 A) (C := (True ∧ True)) rfl ⟨trivial, trivial⟩ ?_
          refine gv_get hD rfl rfl S_61 ⟨by decide, (gz_sh B_61)⟩ (gc_hA S_61 rfl A_61_1) ?_
          show gv_X _ _ (64, [(0, .inr (.inr (some 61))), (1, .inl v1_18), (2, .inl v2_18)], [.inr (.inr (some 48)), .inr (.inr (some 50)), .inl v1_18, .inl v2_18], sh, gc_h sh I16 J17 A)
          refine gv_get hD rfl rfl S_48 ⟨by decide, (gz_sh B_48)⟩ (gc_hI S_48 rfl) ?_
          show gv_X _ _ (67, [(0, .inr (.inr (some 61))), (1, .inl v1_18), (2, .inl v2_18)], [.inl (I16 48 10), .inr (.inr (some 50)), .inl v1_18, .inl v2_18], sh, gc_h sh I16 J17 A)
          have t92 := gz_hi ((show I16 50 (Int.toNat (I16 48 10)) = I 50 (Int.toNat (I 48 10)) from by rw [show I16 48 10 = I 48 10 from by (/-75-/first | (have o1 := gz_sh e5_18; omega) | (simp only [gz_hd] at *; omega))]; exact (FI16 50 _).resolve_left (fun h => h.elim (fun h => absurd h.1 (by first | exact gz_ne rfl | decide)) (fun h => h.elim (fun h => absurd h (by first | exact gz_ne rfl | decide)) (fun h => h.elim (fun h => absurd h (by first | exact gz_ne rfl | decide)) (fun h => h.elim (fun h => absurd h (by first | exact gz_ne rfl | decide)) (fun h => absurd h (by first | exact gz_ne rfl | decide))))))))
          have f93 := gz_hi ((gc_b_43 hI16 (gz_sh R_50) (Int.toNat (I16 48 10))))
          refine gv_iald hD rfl S_50 rfl ⟨by decide, (gz_sh B_50)⟩ ⟨by (/-76-/first | (have o1 := gz_sh e5_18; have o2 := gz_sh f3; omega) | (simp only [gz_hd] at *; omega)), by (/-77-/first | (have o1 := gz_sh e5_18; have o2 := gz_sh f3; omega) | (simp only [gz_hd] at *; omega))⟩ (gc_iI S_50 rfl) ?_
          show gv_X _ _ (68, [(0, .inr (.inr (some 61))), (1, .inl v1_18), (2, .inl v2_18)], [.inl (I16 50 (Int.toNat (I16 48 10))), .inl v1_18, .inl v2_18], sh, gc_h sh I16 J17 A)
          refine gv_run 1 true hD (pcₚ := 69) (lvₚ := [(0, .inr (.inr (some 61))), (1, .inl v1_18), (2, .inl v2_18)]) (stₚ := [.inl (v1_18 + (I16 50 (Int.toNat (I16 48 10)))), .inl v2_18]) (hₚ := gc_h sh I16 J17 A) (C := (True ∧ True)) rfl ⟨trivial, trivial⟩ ?_
          refine gv_icmp_ge (t := 85) hD rfl rfl ⟨⟨by (/-78-/first | (have o1 := gz_sh hv2_18; omega) | (simp only [gz_hd] at *; omega)), by (/-79-/first | (have o1 := gz_sh hv2_18; omega) | (simp only [gz_hd] at *; omega))⟩, ⟨by (/-80-/first | (have o1 := gz_sh f93; have o2 := gz_sh hv1_18; omega) | (simp only [gz_hd] at *; omega)), by (/-81-/first | (have o1 := gz_sh e1_18; have o2 := gz_sh t90; have o3 := gz_sh t92; omega) | (simp only [gz_hd] at *; omega))⟩⟩ (fun c94 => ?_) (fun c94 => ?_)
          · show gv_X _ _ (85, [(0, .inr (.inr (some 61))), (1, .inl v1_18), (2, .inl v2_18)], [], sh, gc_h sh I16 J17 A)
            refine gv_run 2 true hD (pcₚ := 87) (lvₚ := [(0, .inr (.inr (some 61))), (1, .inl v1_18), (2, .inl v2_18)]) (stₚ := [.inl 0, .inr (.inr (some 61))]) (hₚ := gc_h sh I16 J17 A) (C := ((True ∧ True) ∧ True)) rfl ⟨⟨trivial, trivial⟩, trivial⟩ ?_
            refine gv_put hD rfl rfl S_61 ⟨by decide, (gz_sh B_61)⟩ rfl trivial ?_
            refine gc_st (k := 8) hI16 S_61 rfl (gz_sh R_61) (lo := 0) (hi := 9000) rfl rfl (by (/-82-/first | omega | (simp only [gz_hd] at *; omega))) (by (/-83-/first | omega | (simp only [gz_hd] at *; omega))) (fun I95 hI95 q96 p96 => ?_)
            have FI95 := gc_frs (W := fun q j => (q = 61 ∧ j = 8) ∨ q = 64 ∨ q = 65 ∨ q = 66 ∨ q = 67) FI16 (Or.inl ⟨rfl, rfl⟩) p96
            have t97 := gz_hi (p96 48 3 (fun h => absurd h.2 (by first | exact gz_ne rfl | decide)))
            have t98 := gz_hi (p96 48 6 (fun h => absurd h.2 (by first | exact gz_ne rfl | decide)))
            have t99 := gz_hi (p96 48 10 (fun h => absurd h.2 (by first | exact gz_ne rfl | decide)))
            have t100 := gz_hi (p96 61 9 (fun h => absurd h.2 (by first | exact gz_ne rfl | decide)))
            have t101 := gz_hi (p96 61 2 (fun h => absurd h.2 (by first | exact gz_ne rfl | decide)))
            have KOR_I95 : gc_OR I95 := gc_OR_0 (by (/-84-/first | (and_intros; (have o1 := gz_sh f23; have o2 := gz_sh t100; omega); (have o1 := gz_sh f23; have o2 := gz_sh t100; omega)) | (simp only [gz_hd] at *; omega))) (by (/-85-/first | omega | (simp only [gz_hd] at *; omega)))
            show gv_X _ _ (90, [(0, .inr (.inr (some 61))), (1, .inl v1_18), (2, .inl v2_18)], [], sh, gc_h sh I95 J17 A)
            refine gv_run 1 true hD (pcₚ := 91) (lvₚ := [(0, .inr (.inr (some 61))), (1, .inl v1_18), (2, .inl v2_18)]) (stₚ := [.inr (.inr (some 61))]) (hₚ := gc_h sh I95 J17 A) (C := (True ∧ True)) rfl ⟨trivial, trivial⟩ ?_
            refine gv_get hD rfl rfl S_61 ⟨by decide, (gz_sh B_61)⟩ (gc_hA S_61 rfl A_61_1) ?_
            show gv_X _ _ (94, [(0, .inr (.inr (some 61))), (1, .inl v1_18), (2, .inl v2_18)], [.inr (.inr (some 48))], sh, gc_h sh I95 J17 A)
            refine gv_get hD rfl rfl S_48 ⟨by decide, (gz_sh B_48)⟩ (gc_hI S_48 rfl) ?_
            show gv_X _ _ (97, [(0, .inr (.inr (some 61))), (1, .inl v1_18), (2, .inl v2_18)], [.inl (I95 48 6)], sh, gc_h sh I95 J17 A)
            refine gv_run 3 true hD (pcₚ := 100) (lvₚ := [(2, .inl ((I95 48 6) - 1)), (0, .inr (.inr (some 61))), (1, .inl v1_18)]) (stₚ := []) (hₚ := gc_h sh I95 J17 A) (C := (((True ∧ True) ∧ True) ∧ True)) rfl ⟨⟨⟨trivial, trivial⟩, trivial⟩, trivial⟩ ?_
            refine gv_pick [1, 0] rfl ?_
            exact L100 _ I95 J17 (((I95 48 6) - 1)) (Nat.lt_succ_self _) hI95 FI95 FJ17 KOR_I95 (by (/-86-/first | (and_intros; (have o1 := gz_sh e4_18; have o2 := gz_sh f2; have o3 := gz_sh t98; omega); (have o1 := gz_sh e4_18; have o2 := gz_sh f2; have o3 := gz_sh t98; omega); (omega); (have o1 := gz_sh e3_18; have o2 := gz_sh t97; omega); (have o1 := gz_sh e4_18; have o2 := gz_sh t98; omega); (have o1 := gz_sh e5_18; have o2 := gz_sh t99; omega); (have o1 := gz_sh e6_18; have o2 := gz_sh t101; omega)) | (simp only [gz_hd] at *; omega))) (gc_rg_m (gc_rg_fr e0_18 (fun k => p96 67 k (fun h => absurd h.1 (by (/-87-/first | omega | (simp only [gz_hd] at *; omega)))))) (by (/-88-/first | (have o1 := gz_sh t97; omega) | (simp only [gz_hd] at *; omega))))
          · show gv_X _ _ (72, [(0, .inr (.inr (some 61))), (1, .inl v1_18), (2, .inl v2_18)], [], sh, gc_h sh I16 J17 A)
            refine gv_run 1 true hD (pcₚ := 73) (lvₚ := [(0, .inr (.inr (some 61))), (1, .inl v1_18), (2, .inl v2_18)]) (stₚ := [.inr (.inr (some 61))]) (hₚ := gc_h sh I16 J17 A) (C := (True ∧ True)) rfl ⟨trivial, trivial⟩ ?_
            refine gv_get hD rfl rfl S_61 ⟨by decide, (gz_sh B_61)⟩ (gc_hA S_61 rfl A_61_7) ?_
            show gv_X _ _ (76, [(0, .inr (.inr (some 61))), (1, .inl v1_18), (2, .inl v2_18)], [.inr (.inr (some 64))], sh, gc_h sh I16 J17 A)
            refine gv_run 2 true hD (pcₚ := 78) (lvₚ := [(0, .inr (.inr (some 61))), (1, .inl v1_18), (2, .inl v2_18)]) (stₚ := [.inl 1, .inl v2_18, .inr (.inr (some 64))]) (hₚ := gc_h sh I16 J17 A) (C := ((True ∧ True) ∧ True)) rfl ⟨⟨trivial, trivial⟩, trivial⟩ ?_
            have f104 := gz_hi (gw_nar_boolean (x := 1))
            refine gv_zast hD rfl S_64 ⟨by decide, (gz_sh B_64)⟩ ⟨by (/-89-/first | (have o1 := gz_sh hv2_18; omega) | (simp only [gz_hd] at *; omega)), by (/-90-/first | (have o1 := gz_sh e1_18; have o2 := gz_sh t90; have o3 := gz_sh t92; omega) | (simp only [gz_hd] at *; omega))⟩ ?_
            refine gc_st hI16 S_64 rfl (gz_sh R_64) (lo := 0) (hi := 1) rfl rfl (by (/-91-/first | (have o1 := gz_sh f104; omega) | (simp only [gz_hd] at *; omega))) (by (/-92-/first | (have o1 := gz_sh f104; omega) | (simp only [gz_hd] at *; omega))) (fun I105 hI105 q106 p106 => ?_)
            have FI105 := gc_frs (W := fun q j => (q = 61 ∧ j = 8) ∨ q = 64 ∨ q = 65 ∨ q = 66 ∨ q = 67) FI16 (Or.inr (Or.inl rfl)) p106
            have t107 := gz_hi (p106 48 3 (fun h => absurd h.1 (by first | exact gz_ne rfl | decide)))
            have t108 := gz_hi (p106 48 6 (fun h => absurd h.1 (by first | exact gz_ne rfl | decide)))
            have t109 := gz_hi (p106 48 10 (fun h => absurd h.1 (by first | exact gz_ne rfl | decide)))
            have t112 := gz_hi (p106 61 2 (fun h => absurd h.1 (by first | exact gz_ne rfl | decide)))
            show gv_X _ _ (79, [(0, .inr (.inr (some 61))), (1, .inl v1_18), (2, .inl v2_18)], [], sh, gc_h sh I105 J17 A)
            refine gv_run 2 true hD (pcₚ := 51) (lvₚ := [(2, .inl (v2_18 + 1)), (0, .inr (.inr (some 61))), (1, .inl v1_18)]) (stₚ := []) (hₚ := gc_h sh I105 J17 A) (C := ((True ∧ True) ∧ True)) rfl ⟨⟨trivial, trivial⟩, trivial⟩ ?_
            refine gv_pick [1, 2, 0] rfl ?_
            exact ih51 I105 J17 v1_18 (v2_18 + 1) (by (/-93-/first | (have o1 := gz_sh e1_18; have o2 := gz_sh hv2_18; have o3 := gz_sh t90; have o4 := gz_sh t92; omega) | (simp only [gz_hd] at *; omega))) hI105 FI105 FJ17 (by (/-94-/first | (and_intros; (have o1 := gz_sh hv1_18; omega); (have o1 := gz_sh hv1_18; omega); (have o1 := gz_sh hv2_18; omega); (have o1 := gz_sh e1_18; have o2 := gz_sh t90; have o3 := gz_sh t92; omega); (have o1 := gz_sh e1_18; omega); (have o1 := gz_sh e2_18; omega); (have o1 := gz_sh e3_18; have o2 := gz_sh t107; omega); (have o1 := gz_sh e4_18; have o2 := gz_sh t108; omega); (have o1 := gz_sh e5_18; have o2 := gz_sh t109; omega); (have o1 := gz_sh e6_18; have o2 := gz_sh t112; omega)) | (simp only [gz_hd] at *; omega))) (gc_rg_m (gc_rg_fr e0_18 (fun k => p106 67 k (fun h => absurd h.1 (by (/-95-/first | omega | (simp only [gz_hd] at *; omega)))))) (by (/-96-/first | (have o1 := gz_sh t107; omega) | (simp only [gz_hd] at *; omega))))
      refine gv_run 2 true hD (pcₚ := 4) (lvₚ := [(0, .inr (.inr (some 61))), (1, .inl v1_9)]) (stₚ := [.inr (.inr (some 61)), .inl v1_9]) (hₚ := gc_h sh I7 J8 A) (C := ((True ∧ True) ∧ True)) rfl ⟨⟨trivial, trivial⟩, trivial⟩ ?_
      refine gv_get hD rfl rfl S_61 ⟨by decide, (gz_sh B_61)⟩ (gc_hA S_61 rfl A_61_1) ?_
      show gv_X _ _ (7, [(0, .inr (.inr (some 61))), (1, .inl v1_9)], [.inr (.inr (some 48)), .inl v1_9], sh, gc_h sh I7 J8 A)
      refine gv_get hD rfl rfl S_48 ⟨by decide, (gz_sh B_48)⟩ (gc_hI S_48 rfl) ?_
      show gv_X _ _ (10, [(0, .inr (.inr (some 61))), (1, .inl v1_9)], [.inl (I7 48 3), .inl v1_9], sh, gc_h sh I7 J8 A)
      refine gv_icmp_ge (t := 33) hD rfl rfl ⟨⟨by (/-97-/first | (have o1 := gz_sh hv1_9; omega) | (simp only [gz_hd] at *; omega)), by (/-98-/first | (have o1 := gz_sh hv1_9; omega) | (simp only [gz_hd] at *; omega))⟩, ⟨by (/-99-/first | (have o1 := gz_sh e2_9; have o2 := gz_sh f1; omega) | (simp only [gz_hd] at *; omega)), by (/-100-/first | (have o1 := gz_sh e2_9; have o2 := gz_sh f1; omega) | (simp only [gz_hd] at *; omega))⟩⟩ (fun c114 => ?_) (fun c114 => ?_)
      · show gv_X _ _ (33, [(0, .inr (.inr (some 61))), (1, .inl v1_9)], [], sh, gc_h sh I7 J8 A)
        refine gv_run 1 true hD (pcₚ := 34) (lvₚ := [(0, .inr (.inr (some 61))), (1, .inl v1_9)]) (stₚ := [.inr (.inr (some 61))]) (hₚ := gc_h sh I7 J8 A) (C := (True ∧ True)) rfl ⟨trivial, trivial⟩ ?_
        refine gv_get hD rfl rfl S_61 ⟨by decide, (gz_sh B_61)⟩ (gc_hA S_61 rfl A_61_1) ?_
        show gv_X _ _ (37, [(0, .inr (.inr (some 61))), (1, .inl v1_9)], [.inr (.inr (some 48))], sh, gc_h sh I7 J8 A)
        refine gv_get hD rfl rfl S_48 ⟨by decide, (gz_sh B_48)⟩ (gc_hA S_48 rfl A_48_1) ?_
        show gv_X _ _ (40, [(0, .inr (.inr (some 61))), (1, .inl v1_9)], [.inr (.inr (some 49))], sh, gc_h sh I7 J8 A)
        refine gv_run 1 true hD (pcₚ := 41) (lvₚ := [(0, .inr (.inr (some 61))), (1, .inl v1_9)]) (stₚ := [.inr (.inr (some 61)), .inr (.inr (some 49))]) (hₚ := gc_h sh I7 J8 A) (C := (True ∧ True)) rfl ⟨trivial, trivial⟩ ?_
        refine gv_get hD rfl rfl S_61 ⟨by decide, (gz_sh B_61)⟩ (gc_hA S_61 rfl A_61_1) ?_
        show gv_X _ _ (44, [(0, .inr (.inr (some 61))), (1, .inl v1_9)], [.inr (.inr (some 48)), .inr (.inr (some 49))], sh, gc_h sh I7 J8 A)
        refine gv_get hD rfl rfl S_48 ⟨by decide, (gz_sh B_48)⟩ (gc_hI S_48 rfl) ?_
        show gv_X _ _ (47, [(0, .inr (.inr (some 61))), (1, .inl v1_9)], [.inl (I7 48 10), .inr (.inr (some 49))], sh, gc_h sh I7 J8 A)
        have t116 := gz_hi ((show I7 49 (Int.toNat (I7 48 10)) = I 49 (Int.toNat (I 48 10)) from by rw [show I7 48 10 = I 48 10 from by (/-101-/first | (have o1 := gz_sh e4_9; omega) | (simp only [gz_hd] at *; omega))]; exact (FI7 49 _).resolve_left (fun h => h.elim (fun h => absurd h.1 (by first | exact gz_ne rfl | decide)) (fun h => h.elim (fun h => absurd h (by first | exact gz_ne rfl | decide)) (fun h => h.elim (fun h => absurd h (by first | exact gz_ne rfl | decide)) (fun h => h.elim (fun h => absurd h (by first | exact gz_ne rfl | decide)) (fun h => absurd h (by first | exact gz_ne rfl | decide))))))))
        have f117 := gz_hi ((gc_b_43 hI7 (gz_sh R_49) (Int.toNat (I7 48 10))))
        refine gv_iald hD rfl S_49 rfl ⟨by decide, (gz_sh B_49)⟩ ⟨by (/-102-/first | (have o1 := gz_sh e4_9; have o2 := gz_sh f3; omega) | (simp only [gz_hd] at *; omega)), by (/-103-/first | (have o1 := gz_sh e4_9; have o2 := gz_sh f3; omega) | (simp only [gz_hd] at *; omega))⟩ (gc_iI S_49 rfl) ?_
        show gv_X _ _ (48, [(0, .inr (.inr (some 61))), (1, .inl v1_9)], [.inl (I7 49 (Int.toNat (I7 48 10)))], sh, gc_h sh I7 J8 A)
        refine gv_run 3 true hD (pcₚ := 51) (lvₚ := [(2, .inl (I7 49 (Int.toNat (I7 48 10)))), (1, .inl (I7 49 (Int.toNat (I7 48 10)))), (0, .inr (.inr (some 61)))]) (stₚ := []) (hₚ := gc_h sh I7 J8 A) (C := (((True ∧ True) ∧ True) ∧ True)) rfl ⟨⟨⟨trivial, trivial⟩, trivial⟩, trivial⟩ ?_
        refine gv_pick [2, 1, 0] rfl ?_
        exact L51 _ I7 J8 ((I7 49 (Int.toNat (I7 48 10)))) ((I7 49 (Int.toNat (I7 48 10)))) (Nat.lt_succ_self _) hI7 FI7 FJ8 (by (/-104-/first | (and_intros; (have o1 := gz_sh f117; omega); (have o1 := gz_sh f117; omega); (have o1 := gz_sh f117; omega); (have o1 := gz_sh f117; omega); (have o1 := gz_sh t116; omega); (omega); (have o1 := gz_sh e2_9; omega); (have o1 := gz_sh e3_9; omega); (have o1 := gz_sh e4_9; omega); (have o1 := gz_sh e5_9; omega)) | (simp only [gz_hd] at *; omega))) (gc_rg_m e0_9 (by (/-105-/first | omega | (simp only [gz_hd] at *; omega))))
      · show gv_X _ _ (13, [(0, .inr (.inr (some 61))), (1, .inl v1_9)], [], sh, gc_h sh I7 J8 A)
        refine gv_run 1 true hD (pcₚ := 14) (lvₚ := [(0, .inr (.inr (some 61))), (1, .inl v1_9)]) (stₚ := [.inr (.inr (some 61))]) (hₚ := gc_h sh I7 J8 A) (C := (True ∧ True)) rfl ⟨trivial, trivial⟩ ?_
        refine gv_get hD rfl rfl S_61 ⟨by decide, (gz_sh B_61)⟩ (gc_hA S_61 rfl A_61_7) ?_
        show gv_X _ _ (17, [(0, .inr (.inr (some 61))), (1, .inl v1_9)], [.inr (.inr (some 64))], sh, gc_h sh I7 J8 A)
        refine gv_run 2 true hD (pcₚ := 19) (lvₚ := [(0, .inr (.inr (some 61))), (1, .inl v1_9)]) (stₚ := [.inl 0, .inl v1_9, .inr (.inr (some 64))]) (hₚ := gc_h sh I7 J8 A) (C := ((True ∧ True) ∧ True)) rfl ⟨⟨trivial, trivial⟩, trivial⟩ ?_
        have f118 := gz_hi (gw_nar_boolean (x := 0))
        refine gv_zast hD rfl S_64 ⟨by decide, (gz_sh B_64)⟩ ⟨by (/-106-/first | (have o1 := gz_sh hv1_9; omega) | (simp only [gz_hd] at *; omega)), by (/-107-/first | (have o1 := gz_sh e2_9; have o2 := gz_sh f1; omega) | (simp only [gz_hd] at *; omega))⟩ ?_
        refine gc_st hI7 S_64 rfl (gz_sh R_64) (lo := 0) (hi := 1) rfl rfl (by (/-108-/first | (have o1 := gz_sh f118; omega) | (simp only [gz_hd] at *; omega))) (by (/-109-/first | (have o1 := gz_sh f118; omega) | (simp only [gz_hd] at *; omega))) (fun I119 hI119 q120 p120 => ?_)
        have FI119 := gc_frs (W := fun q j => (q = 61 ∧ j = 8) ∨ q = 64 ∨ q = 65 ∨ q = 66 ∨ q = 67) FI7 (Or.inr (Or.inl rfl)) p120
        have t121 := gz_hi (p120 48 3 (fun h => absurd h.1 (by first | exact gz_ne rfl | decide)))
        have t122 := gz_hi (p120 48 6 (fun h => absurd h.1 (by first | exact gz_ne rfl | decide)))
        have t123 := gz_hi (p120 48 10 (fun h => absurd h.1 (by first | exact gz_ne rfl | decide)))
        have t126 := gz_hi (p120 61 2 (fun h => absurd h.1 (by first | exact gz_ne rfl | decide)))
        show gv_X _ _ (20, [(0, .inr (.inr (some 61))), (1, .inl v1_9)], [], sh, gc_h sh I119 J8 A)
        refine gv_run 1 true hD (pcₚ := 21) (lvₚ := [(0, .inr (.inr (some 61))), (1, .inl v1_9)]) (stₚ := [.inr (.inr (some 61))]) (hₚ := gc_h sh I119 J8 A) (C := (True ∧ True)) rfl ⟨trivial, trivial⟩ ?_
        refine gv_get hD rfl rfl S_61 ⟨by decide, (gz_sh B_61)⟩ (gc_hA S_61 rfl A_61_11) ?_
        show gv_X _ _ (24, [(0, .inr (.inr (some 61))), (1, .inl v1_9)], [.inr (.inr (some 67))], sh, gc_h sh I119 J8 A)
        refine gv_run 2 true hD (pcₚ := 26) (lvₚ := [(0, .inr (.inr (some 61))), (1, .inl v1_9)]) (stₚ := [.inl 0, .inl v1_9, .inr (.inr (some 67))]) (hₚ := gc_h sh I119 J8 A) (C := ((True ∧ True) ∧ True)) rfl ⟨⟨trivial, trivial⟩, trivial⟩ ?_
        refine gv_iast hD rfl S_67 ⟨by decide, (gz_sh B_67)⟩ ⟨by (/-110-/first | (have o1 := gz_sh hv1_9; omega) | (simp only [gz_hd] at *; omega)), by (/-111-/first | (have o1 := gz_sh e2_9; have o2 := gz_sh f1; omega) | (simp only [gz_hd] at *; omega))⟩ ?_
        refine gc_st hI119 S_67 rfl (gz_sh R_67) (lo := 0) (hi := 16) rfl rfl (by (/-112-/first | omega | (simp only [gz_hd] at *; omega))) (by (/-113-/first | omega | (simp only [gz_hd] at *; omega))) (fun I127 hI127 q128 p128 => ?_)
        have FI127 := gc_frs (W := fun q j => (q = 61 ∧ j = 8) ∨ q = 64 ∨ q = 65 ∨ q = 66 ∨ q = 67) FI119 (Or.inr (Or.inr (Or.inr (Or.inr rfl)))) p128
        have t129 := gz_hi (p128 48 3 (fun h => absurd h.1 (by first | exact gz_ne rfl | decide)))
        have t130 := gz_hi (p128 48 6 (fun h => absurd h.1 (by first | exact gz_ne rfl | decide)))
        have t131 := gz_hi (p128 48 10 (fun h => absurd h.1 (by first | exact gz_ne rfl | decide)))
        have t134 := gz_hi (p128 61 2 (fun h => absurd h.1 (by first | exact gz_ne rfl | decide)))
        show gv_X _ _ (27, [(0, .inr (.inr (some 61))), (1, .inl v1_9)], [], sh, gc_h sh I127 J8 A)
        refine gv_run 2 true hD (pcₚ := 2) (lvₚ := [(1, .inl (v1_9 + 1)), (0, .inr (.inr (some 61)))]) (stₚ := []) (hₚ := gc_h sh I127 J8 A) (C := ((True ∧ True) ∧ True)) rfl ⟨⟨trivial, trivial⟩, trivial⟩ ?_
        refine gv_pick [1, 0] rfl ?_
        exact ih2 I127 J8 (v1_9 + 1) (by (/-114-/first | (have o1 := gz_sh e2_9; have o2 := gz_sh f1; have o3 := gz_sh hv1_9; have o4 := gz_sh t121; have o5 := gz_sh t129; omega) | (simp only [gz_hd] at *; omega))) hI127 FI127 FJ8 (by (/-115-/first | (and_intros; (have o1 := gz_sh hv1_9; omega); (have o1 := gz_sh e2_9; have o2 := gz_sh f1; omega); (have o1 := gz_sh t121; have o2 := gz_sh t129; omega); (have o1 := gz_sh e2_9; have o2 := gz_sh t121; have o3 := gz_sh t129; omega); (have o1 := gz_sh e3_9; have o2 := gz_sh t122; have o3 := gz_sh t130; omega); (have o1 := gz_sh e4_9; have o2 := gz_sh t123; have o3 := gz_sh t131; omega); (have o1 := gz_sh e5_9; have o2 := gz_sh t126; have o3 := gz_sh t134; omega)) | (simp only [gz_hd] at *; omega))) (gc_rg_push (gc_rg_fr e0_9 (fun k => p120 67 k (fun h => absurd h.1 (by (/-116-/first | omega | (simp only [gz_hd] at *; omega)))))) (by (/-117-/first | (have o1 := gz_sh hv1_9; omega) | (simp only [gz_hd] at *; omega))) p128 (by (/-118-/first | (and_intros <;> omega) | (simp only [gz_hd] at *; omega))))
  refine gv_run 2 true hD (pcₚ := 2) (lvₚ := [(1, .inl 0), (0, .inr (.inr (some 61)))]) (stₚ := []) (hₚ := gc_h sh I J A) (C := ((True ∧ True) ∧ True)) rfl ⟨⟨trivial, trivial⟩, trivial⟩ ?_
  refine gv_pick [1, 0] rfl ?_
  exact L2 _ I J 0 (Nat.lt_succ_self _) hI FI FJ (by (/-119-/first | (and_intros; (omega); (omega); (have o1 := gz_sh f1; omega); (omega); (omega); (omega); (omega)) | (simp only [gz_hd] at *; omega))) (fun k a b => by (/-120-/first | (and_intros <;> omega) | (simp only [gz_hd] at *; omega)))
set_option maxHeartbeats 8000000 in
set_option maxRecDepth 100000 in
theorem d_X5_compare {ws0 : List Cond} {tb : String → gz_T} (hws : gc_Ws ws0) (htb : gc_tbs tb) (sh : gz_Sh) (ro : Nat → Nat) (I : gr_I) (J : gr_J) (A : gc_A) (hI : gc_Inv ro I) (t : Nat) (a1 : Int) (a2 : Int) (hb : gc_Base sh ro A) (h_t : gc_isTongue sh ro A t) (G_t : 144 ≤ t) (ha1 : 0 ≤ a1 ∧ a1 ≤ 8999) (ha2 : 0 ≤ a2 ∧ a2 ≤ 8999) (x0 : gc_Ls sh ro A t I) (x1 : gc_WV t I) (x2 : a1 < I 48 6) (x3 : a2 < I 48 6) (x4 : I 61 2 = (t : Int)) : ∃ r hₚ, gz_Ev ws0 tb 2 (yX5_compare, cX5_compare, 7, (some .int)) [.inr (.inr (some 61)), .inl a1, .inl a2] sh (gc_h sh I J A) r sh hₚ 0 0 ∧ (hₚ = gc_h sh I J A ∧ (∃ z : Int, r = some (.inl z) ∧ (-16777215) ≤ z ∧ z ≤ 16777215)) := by
  have A_48_7 : A 48 7 = some 53 := gc_bA_48_7 hb
  have A_48_8 : A 48 8 = some 54 := gc_bA_48_8 hb
  have A_61_1 : A 61 1 = some 48 := gc_bA_61_1 hb
  have B_48 := gz_hi (show 48 < 1000000 from by decide)
  have B_53 := gz_hi (show 53 < 1000000 from by decide)
  have B_54 := gz_hi (show 54 < 1000000 from by decide)
  have B_61 := gz_hi (show 61 < 1000000 from by decide)
  have R_53 := gz_hi (show ro 53 = 44 from gc_bR_53 hb)
  have R_54 := gz_hi (show ro 54 = 46 from gc_bR_54 hb)
  have R_61 := gz_hi (show ro 61 = 72 from gc_bR_61 hb)
  have S_48 : sh[48]? = some (false, 0, 22) := gc_bS_48 hb
  have S_53 : sh[53]? = some (true, 1, 9000) := gc_bS_53 hb
  have S_54 : sh[54]? = some (true, 1, 9000) := gc_bS_54 hb
  have S_61 : sh[61]? = some (false, 5, 19) := gc_bS_61 hb
  obtain ⟨S_t, R_t, B_t, A_t_0, h_t_1, A_t_1, h_t_3, A_t_2, S_t_5, R_t_5, B_t_5, A_t_3, S_t_6, R_t_6, B_t_6, A_t_4, h_t_7, A_t_5, S_t_9, R_t_9, B_t_9, A_t_7, S_t_10, R_t_10, B_t_10, A_t_8, h_t_11, A_t_9, S_t_13, R_t_13, B_t_13, A_t_10, S_t_14, R_t_14, B_t_14, A_t_12, S_t_15, R_t_15, B_t_15, A_t_14, S_t_16, R_t_16, B_t_16, A_t_15, h_t_17⟩ := id h_t
  replace R_t := gz_hi R_t
  replace B_t := gz_hi B_t
  replace R_t_5 := gz_hi R_t_5
  replace B_t_5 := gz_hi B_t_5
  replace R_t_6 := gz_hi R_t_6
  replace B_t_6 := gz_hi B_t_6
  replace R_t_9 := gz_hi R_t_9
  replace B_t_9 := gz_hi B_t_9
  replace R_t_10 := gz_hi R_t_10
  replace B_t_10 := gz_hi B_t_10
  replace R_t_13 := gz_hi R_t_13
  replace B_t_13 := gz_hi B_t_13
  replace R_t_14 := gz_hi R_t_14
  replace B_t_14 := gz_hi B_t_14
  replace R_t_15 := gz_hi R_t_15
  replace B_t_15 := gz_hi B_t_15
  replace R_t_16 := gz_hi R_t_16
  replace B_t_16 := gz_hi B_t_16
  obtain ⟨S_t_1, R_t_1, B_t_1, A_t_1_0, S_t_1_1, R_t_1_1, B_t_1_1, Q0_t_1, Q1_t_1, Q2_t_1⟩ := id h_t_1
  replace R_t_1 := gz_hi R_t_1
  replace B_t_1 := gz_hi B_t_1
  replace R_t_1_1 := gz_hi R_t_1_1
  replace B_t_1_1 := gz_hi B_t_1_1
  obtain ⟨S_t_3, R_t_3, B_t_3, A_t_3_0, S_t_3_1, R_t_3_1, B_t_3_1, Q0_t_3, Q1_t_3, Q2_t_3⟩ := id h_t_3
  replace R_t_3 := gz_hi R_t_3
  replace B_t_3 := gz_hi B_t_3
  replace R_t_3_1 := gz_hi R_t_3_1
  replace B_t_3_1 := gz_hi B_t_3_1
  obtain ⟨S_t_7, R_t_7, B_t_7, A_t_7_0, S_t_7_1, R_t_7_1, B_t_7_1, Q0_t_7, Q1_t_7, Q2_t_7⟩ := id h_t_7
  replace R_t_7 := gz_hi R_t_7
  replace B_t_7 := gz_hi B_t_7
  replace R_t_7_1 := gz_hi R_t_7_1
  replace B_t_7_1 := gz_hi B_t_7_1
  obtain ⟨S_t_11, R_t_11, B_t_11, A_t_11_0, S_t_11_1, R_t_11_1, B_t_11_1, Q0_t_11, Q1_t_11, Q2_t_11⟩ := id h_t_11
  replace R_t_11 := gz_hi R_t_11
  replace B_t_11 := gz_hi B_t_11
  replace R_t_11_1 := gz_hi R_t_11_1
  replace B_t_11_1 := gz_hi B_t_11_1
  obtain ⟨S_t_17, R_t_17, B_t_17, A_t_17_0, S_20, R_20, B_20, A_t_17_1, S_t_17_1, R_t_17_1, B_t_17_1, A_t_17_2, S_t_17_2, R_t_17_2, B_t_17_2, A_t_17_3, S_t_17_3, R_t_17_3, B_t_17_3, A_t_17_4, S_t_17_4, R_t_17_4, B_t_17_4, A_t_17_5, S_t_17_5, R_t_17_5, B_t_17_5, S_t_17_6, R_t_17_6, B_t_17_6, S_t_17_7, R_t_17_7, B_t_17_7⟩ := id h_t_17
  replace R_t_17 := gz_hi R_t_17
  replace B_t_17 := gz_hi B_t_17
  replace R_20 := gz_hi R_20
  replace B_20 := gz_hi B_20
  replace R_t_17_1 := gz_hi R_t_17_1
  replace B_t_17_1 := gz_hi B_t_17_1
  replace R_t_17_2 := gz_hi R_t_17_2
  replace B_t_17_2 := gz_hi B_t_17_2
  replace R_t_17_3 := gz_hi R_t_17_3
  replace B_t_17_3 := gz_hi B_t_17_3
  replace R_t_17_4 := gz_hi R_t_17_4
  replace B_t_17_4 := gz_hi B_t_17_4
  replace R_t_17_5 := gz_hi R_t_17_5
  replace B_t_17_5 := gz_hi B_t_17_5
  replace R_t_17_6 := gz_hi R_t_17_6
  replace B_t_17_6 := gz_hi B_t_17_6
  replace R_t_17_7 := gz_hi R_t_17_7
  replace B_t_17_7 := gz_hi B_t_17_7
  have hD : gv_D (gc_E5 ws0 tb 1 (yX5_compare, cX5_compare, 7, (some .int)) kX5_compare) := gq_of oX5_compare
  refine gc_ev5 (d := 1) (l := kX5_compare) (Po := fun r hₚ => (hₚ = gc_h sh I J A ∧ (∃ z : Int, r = some (.inl z) ∧ (-16777215) ≤ z ∧ z ≤ 16777215))) htb rfl (Nat.le_of_ble_eq_true rfl) ?_
  have L76 : ∀ (v3_2 : Int) (v4_2 : Int), ((0 ≤ a1 ∧ a1 ≤ 8999) ∧ (0 ≤ a2 ∧ a2 ≤ 8999) ∧ ((-384) ≤ v3_2 ∧ v3_2 ≤ 1535) ∧ ((-384) ≤ v4_2 ∧ v4_2 ≤ 1535) ∧ (v3_2 = I 54 (Int.toNat a1)) ∧ (v4_2 = I 54 (Int.toNat a2)) ∧ (I 61 2 = (t : Int))) → gv_X (gc_E5 ws0 tb 1 (yX5_compare, cX5_compare, 7, (some .int)) kX5_compare) (gv_Q cX5_compare (some .int) sh (fun r hₚ => (hₚ = gc_h sh I J A ∧ (∃ z : Int, r = some (.inl z) ∧ (-16777215) ≤ z ∧ z ≤ 16777215)))) (76, [(0, .inr (.inr (some 61))), (1, .inl a1), (2, .inl a2), (3, .inl v3_2), (4, .inl v4_2)], [], sh, gc_h sh I J A) := by
    intro v3_2 v4_2 m_2
    obtain ⟨ha1_2, ha2_2, hv3_2, hv4_2, e0_2, e1_2, e2_2⟩ := gz_h7 m_2
    have L85 : (((-384) ≤ v3_2 ∧ v3_2 ≤ 1535) ∧ (I 61 2 = (t : Int))) → gv_X (gc_E5 ws0 tb 1 (yX5_compare, cX5_compare, 7, (some .int)) kX5_compare) (gv_Q cX5_compare (some .int) sh (fun r hₚ => (hₚ = gc_h sh I J A ∧ (∃ z : Int, r = some (.inl z) ∧ (-16777215) ≤ z ∧ z ≤ 16777215)))) (85, [(3, .inl v3_2)], [], sh, gc_h sh I J A) := by
      intro m_4
      obtain ⟨hv3_2_4, e0_4⟩ := gz_h2 m_4
      have L94 : ∀ (s0_6 : Int), (((-1) ≤ s0_6 ∧ s0_6 ≤ 1) ∧ (I 61 2 = (t : Int))) → gv_X (gc_E5 ws0 tb 1 (yX5_compare, cX5_compare, 7, (some .int)) kX5_compare) (gv_Q cX5_compare (some .int) sh (fun r hₚ => (hₚ = gc_h sh I J A ∧ (∃ z : Int, r = some (.inl z) ∧ (-16777215) ≤ z ∧ z ≤ 16777215)))) (94, [], [.inl s0_6], sh, gc_h sh I J A) := by
        intro s0_6 m_6
        obtain ⟨hs0_6, e0_6⟩ := gz_h2 m_6
        exact gv_iret hD rfl ⟨rfl, ⟨_, rfl, by (/-0-/first | (and_intros; (have o1 := gz_sh hs0_6; omega); (have o1 := gz_sh hs0_6; omega)) | (simp only [gz_hd] at *; omega))⟩⟩
      refine gv_run 1 true hD (pcₚ := 86) (lvₚ := [(3, .inl v3_2)]) (stₚ := [.inl v3_2]) (hₚ := gc_h sh I J A) (C := (True ∧ True)) rfl ⟨trivial, trivial⟩ ?_
      refine gv_if_lt (t := 93) hD rfl rfl ⟨by (/-1-/first | (have o1 := gz_sh hv3_2; omega) | (simp only [gz_hd] at *; omega)), by (/-2-/first | (have o1 := gz_sh hv3_2; omega) | (simp only [gz_hd] at *; omega))⟩ (fun c8 => ?_) (fun c8 => ?_)
      · show gv_X _ _ (93, [(3, .inl v3_2)], [], sh, gc_h sh I J A)
        refine gv_run 1 true hD (pcₚ := 94) (lvₚ := [(3, .inl v3_2)]) (stₚ := [.inl 1]) (hₚ := gc_h sh I J A) (C := (True ∧ True)) rfl ⟨trivial, trivial⟩ ?_
        refine gv_pick [] rfl ?_
        exact L94 1 (by (/-3-/first | (and_intros <;> omega) | (simp only [gz_hd] at *; omega)))
      · show gv_X _ _ (89, [(3, .inl v3_2)], [], sh, gc_h sh I J A)
        refine gv_run 2 true hD (pcₚ := 94) (lvₚ := [(3, .inl v3_2)]) (stₚ := [.inl (-1)]) (hₚ := gc_h sh I J A) (C := ((True ∧ True) ∧ True)) rfl ⟨⟨trivial, trivial⟩, trivial⟩ ?_
        refine gv_pick [] rfl ?_
        exact L94 (-1) (by (/-4-/first | (and_intros <;> omega) | (simp only [gz_hd] at *; omega)))
    have L167 : ∀ (s0_9 : Int), (((-384) ≤ s0_9 ∧ s0_9 ≤ 384) ∧ (I 61 2 = (t : Int))) → gv_X (gc_E5 ws0 tb 1 (yX5_compare, cX5_compare, 7, (some .int)) kX5_compare) (gv_Q cX5_compare (some .int) sh (fun r hₚ => (hₚ = gc_h sh I J A ∧ (∃ z : Int, r = some (.inl z) ∧ (-16777215) ≤ z ∧ z ≤ 16777215)))) (167, [], [.inl s0_9], sh, gc_h sh I J A) := by
      intro s0_9 m_9
      obtain ⟨hs0_9, e0_9⟩ := gz_h2 m_9
      exact gv_iret hD rfl ⟨rfl, ⟨_, rfl, by (/-5-/first | (and_intros; (have o1 := gz_sh hs0_9; omega); (have o1 := gz_sh hs0_9; omega)) | (simp only [gz_hd] at *; omega))⟩⟩
    refine gv_run 1 true hD (pcₚ := 77) (lvₚ := [(0, .inr (.inr (some 61))), (1, .inl a1), (2, .inl a2), (3, .inl v3_2), (4, .inl v4_2)]) (stₚ := [.inl v3_2]) (hₚ := gc_h sh I J A) (C := (True ∧ True)) rfl ⟨trivial, trivial⟩ ?_
    refine gv_if_ge (t := 85) hD rfl rfl ⟨by (/-6-/first | (have o1 := gz_sh hv3_2; omega) | (simp only [gz_hd] at *; omega)), by (/-7-/first | (have o1 := gz_sh hv3_2; omega) | (simp only [gz_hd] at *; omega))⟩ (fun c11 => ?_) (fun c11 => ?_)
    · show gv_X _ _ (85, [(0, .inr (.inr (some 61))), (1, .inl a1), (2, .inl a2), (3, .inl v3_2), (4, .inl v4_2)], [], sh, gc_h sh I J A)
      refine gv_pick [3] rfl ?_
      exact L85 (by (/-8-/first | (and_intros; (omega); (have o1 := gz_sh hv3_2; omega); (omega)) | (simp only [gz_hd] at *; omega)))
    · show gv_X _ _ (80, [(0, .inr (.inr (some 61))), (1, .inl a1), (2, .inl a2), (3, .inl v3_2), (4, .inl v4_2)], [], sh, gc_h sh I J A)
      refine gv_run 1 true hD (pcₚ := 82) (lvₚ := [(0, .inr (.inr (some 61))), (1, .inl a1), (2, .inl a2), (3, .inl v3_2), (4, .inl v4_2)]) (stₚ := [.inl v4_2]) (hₚ := gc_h sh I J A) (C := (True ∧ True)) rfl ⟨trivial, trivial⟩ ?_
      refine gv_if_lt (t := 95) hD rfl rfl ⟨by (/-9-/first | (have o1 := gz_sh hv4_2; omega) | (simp only [gz_hd] at *; omega)), by (/-10-/first | (have o1 := gz_sh hv4_2; omega) | (simp only [gz_hd] at *; omega))⟩ (fun c12 => ?_) (fun c12 => ?_)
      · show gv_X _ _ (95, [(0, .inr (.inr (some 61))), (1, .inl a1), (2, .inl a2), (3, .inl v3_2), (4, .inl v4_2)], [], sh, gc_h sh I J A)
        have t13 := gz_hi (x1 (Int.toNat a1) (by (/-11-/first | omega | (simp only [gz_hd] at *; omega))))
        have t14 := gz_hi (x1 (Int.toNat a2) (by (/-12-/first | omega | (simp only [gz_hd] at *; omega))))
        refine gv_run 1 true hD (pcₚ := 96) (lvₚ := [(0, .inr (.inr (some 61))), (1, .inl a1), (2, .inl a2), (3, .inl v3_2), (4, .inl v4_2)]) (stₚ := [.inr (.inr (some 61))]) (hₚ := gc_h sh I J A) (C := (True ∧ True)) rfl ⟨trivial, trivial⟩ ?_
        refine gv_get hD rfl rfl S_61 ⟨by decide, (gz_sh B_61)⟩ (gc_h5 (t := t) S_61 rfl (by (/-13-/first | (have o1 := gz_sh e2_2; omega) | (simp only [gz_hd] at *; omega)))) ?_
        show gv_X _ _ (99, [(0, .inr (.inr (some 61))), (1, .inl a1), (2, .inl a2), (3, .inl v3_2), (4, .inl v4_2)], [.inr (.inr (some t))], sh, gc_h sh I J A)
        refine gv_get hD rfl rfl S_t ⟨by decide, (gz_sh B_t)⟩ (gc_hA S_t rfl A_t_14) ?_
        show gv_X _ _ (102, [(0, .inr (.inr (some 61))), (1, .inl a1), (2, .inl a2), (3, .inl v3_2), (4, .inl v4_2)], [.inr (.inr (some (t + 16)))], sh, gc_h sh I J A)
        refine gv_run 3 true hD (pcₚ := 105) (lvₚ := [(0, .inr (.inr (some 61))), (1, .inl a1), (2, .inl a2), (3, .inl v3_2), (4, .inl v4_2)]) (stₚ := [.inl ((-1) - v3_2), .inr (.inr (some (t + 16)))]) (hₚ := gc_h sh I J A) (C := (((True ∧ True) ∧ True) ∧ True)) rfl ⟨⟨⟨trivial, trivial⟩, trivial⟩, trivial⟩ ?_
        obtain ⟨t15_, A_t15, h_t15, G_t15, U_t15, V_t15⟩ := x0 (Int.toNat (((-1) - v3_2))) (by (/-14-/first | (have o1 := gz_sh e0_2; have o2 := gz_sh t13; omega) | (simp only [gz_hd] at *; omega)))
        obtain ⟨S_t15, R_t15, B_t15, A_t15_5, S_t15__1, R_t15__1, B_t15__1, A_t15_6, S_t15__2, R_t15__2, B_t15__2, A_t15_7, S_t15__3, R_t15__3, B_t15__3, A_t15_9, S_t15__4, R_t15__4, B_t15__4, A_t15_10, S_t15__5, R_t15__5, B_t15__5, A_t15_11, S_t15__6, R_t15__6, B_t15__6, A_t15_13, S_t15__7, R_t15__7, B_t15__7, A_t15_15, S_t15__8, R_t15__8, B_t15__8⟩ := id h_t15
        replace R_t15 := gz_hi R_t15
        replace B_t15 := gz_hi B_t15
        replace R_t15__1 := gz_hi R_t15__1
        replace B_t15__1 := gz_hi B_t15__1
        replace R_t15__2 := gz_hi R_t15__2
        replace B_t15__2 := gz_hi B_t15__2
        replace R_t15__3 := gz_hi R_t15__3
        replace B_t15__3 := gz_hi B_t15__3
        replace R_t15__4 := gz_hi R_t15__4
        replace B_t15__4 := gz_hi B_t15__4
        replace R_t15__5 := gz_hi R_t15__5
        replace B_t15__5 := gz_hi B_t15__5
        replace R_t15__6 := gz_hi R_t15__6
        replace B_t15__6 := gz_hi B_t15__6
        replace R_t15__7 := gz_hi R_t15__7
        replace B_t15__7 := gz_hi B_t15__7
        replace R_t15__8 := gz_hi R_t15__8
        replace B_t15__8 := gz_hi B_t15__8
        refine gv_aald hD rfl S_t_16 ⟨by decide, by decide⟩ ⟨by decide, (gz_sh B_t_16)⟩ ⟨by (/-15-/first | omega | (simp only [gz_hd] at *; omega)), by (/-16-/first | (have o1 := gz_sh hv3_2; omega) | (simp only [gz_hd] at *; omega))⟩ ((gc_aA S_t_16 rfl).trans A_t15) ?_
        show gv_X _ _ (106, [(0, .inr (.inr (some 61))), (1, .inl a1), (2, .inl a2), (3, .inl v3_2), (4, .inl v4_2)], [.inr (.inr (some t15_))], sh, gc_h sh I J A)
        refine gv_run 2 true hD (pcₚ := 109) (lvₚ := [(5, .inr (.inr (some t15_))), (0, .inr (.inr (some 61))), (1, .inl a1), (2, .inl a2), (3, .inl v3_2), (4, .inl v4_2)]) (stₚ := [.inr (.inr (some 61))]) (hₚ := gc_h sh I J A) (C := ((True ∧ True) ∧ True)) rfl ⟨⟨trivial, trivial⟩, trivial⟩ ?_
        refine gv_get hD rfl rfl S_61 ⟨by decide, (gz_sh B_61)⟩ (gc_h5 (t := t) S_61 rfl (by (/-17-/first | (have o1 := gz_sh e2_2; omega) | (simp only [gz_hd] at *; omega)))) ?_
        show gv_X _ _ (112, [(5, .inr (.inr (some t15_))), (0, .inr (.inr (some 61))), (1, .inl a1), (2, .inl a2), (3, .inl v3_2), (4, .inl v4_2)], [.inr (.inr (some t))], sh, gc_h sh I J A)
        refine gv_get hD rfl rfl S_t ⟨by decide, (gz_sh B_t)⟩ (gc_hA S_t rfl A_t_14) ?_
        show gv_X _ _ (115, [(5, .inr (.inr (some t15_))), (0, .inr (.inr (some 61))), (1, .inl a1), (2, .inl a2), (3, .inl v3_2), (4, .inl v4_2)], [.inr (.inr (some (t + 16)))], sh, gc_h sh I J A)
        refine gv_run 3 true hD (pcₚ := 119) (lvₚ := [(5, .inr (.inr (some t15_))), (0, .inr (.inr (some 61))), (1, .inl a1), (2, .inl a2), (3, .inl v3_2), (4, .inl v4_2)]) (stₚ := [.inl ((-1) - v4_2), .inr (.inr (some (t + 16)))]) (hₚ := gc_h sh I J A) (C := (((True ∧ True) ∧ True) ∧ True)) rfl ⟨⟨⟨trivial, trivial⟩, trivial⟩, trivial⟩ ?_
        obtain ⟨t16_, A_t16, h_t16, G_t16, U_t16, V_t16⟩ := x0 (Int.toNat (((-1) - v4_2))) (by (/-18-/first | (have o1 := gz_sh e1_2; have o2 := gz_sh t14; omega) | (simp only [gz_hd] at *; omega)))
        obtain ⟨S_t16, R_t16, B_t16, A_t16_5, S_t16__1, R_t16__1, B_t16__1, A_t16_6, S_t16__2, R_t16__2, B_t16__2, A_t16_7, S_t16__3, R_t16__3, B_t16__3, A_t16_9, S_t16__4, R_t16__4, B_t16__4, A_t16_10, S_t16__5, R_t16__5, B_t16__5, A_t16_11, S_t16__6, R_t16__6, B_t16__6, A_t16_13, S_t16__7, R_t16__7, B_t16__7, A_t16_15, S_t16__8, R_t16__8, B_t16__8⟩ := id h_t16
        replace R_t16 := gz_hi R_t16
        replace B_t16 := gz_hi B_t16
        replace R_t16__1 := gz_hi R_t16__1
        replace B_t16__1 := gz_hi B_t16__1
        replace R_t16__2 := gz_hi R_t16__2
        replace B_t16__2 := gz_hi B_t16__2
        replace R_t16__3 := gz_hi R_t16__3
        replace B_t16__3 := gz_hi B_t16__3
        replace R_t16__4 := gz_hi R_t16__4
        replace B_t16__4 := gz_hi B_t16__4
        replace R_t16__5 := gz_hi R_t16__5
        replace B_t16__5 := gz_hi B_t16__5
        replace R_t16__6 := gz_hi R_t16__6
        replace B_t16__6 := gz_hi B_t16__6
        replace R_t16__7 := gz_hi R_t16__7
        replace B_t16__7 := gz_hi B_t16__7
        replace R_t16__8 := gz_hi R_t16__8
        replace B_t16__8 := gz_hi B_t16__8
        refine gv_aald hD rfl S_t_16 ⟨by decide, by decide⟩ ⟨by decide, (gz_sh B_t_16)⟩ ⟨by (/-19-/first | omega | (simp only [gz_hd] at *; omega)), by (/-20-/first | (have o1 := gz_sh hv4_2; omega) | (simp only [gz_hd] at *; omega))⟩ ((gc_aA S_t_16 rfl).trans A_t16) ?_
        show gv_X _ _ (120, [(5, .inr (.inr (some t15_))), (0, .inr (.inr (some 61))), (1, .inl a1), (2, .inl a2), (3, .inl v3_2), (4, .inl v4_2)], [.inr (.inr (some t16_))], sh, gc_h sh I J A)
        refine gv_run 3 true hD (pcₚ := 126) (lvₚ := [(6, .inr (.inr (some t16_))), (5, .inr (.inr (some t15_))), (0, .inr (.inr (some 61))), (1, .inl a1), (2, .inl a2), (3, .inl v3_2), (4, .inl v4_2)]) (stₚ := [.inr (.inr (some t16_)), .inr (.inr (some t15_))]) (hₚ := gc_h sh I J A) (C := (((True ∧ True) ∧ True) ∧ True)) rfl ⟨⟨⟨trivial, trivial⟩, trivial⟩, trivial⟩ ?_
        refine gv_acmp_eq (t := 168) hD rfl rfl ⟨gc_ltS S_t15, (gz_sh B_t15)⟩ ⟨gc_ltS S_t16, (gz_sh B_t16)⟩ (fun c17 => ?_) (fun c17 => ?_)
        · show gv_X _ _ (168, [(6, .inr (.inr (some t16_))), (5, .inr (.inr (some t15_))), (0, .inr (.inr (some 61))), (1, .inl a1), (2, .inl a2), (3, .inl v3_2), (4, .inl v4_2)], [], sh, gc_h sh I J A)
          refine gv_run 7 true hD (pcₚ := 175) (lvₚ := [(6, .inr (.inr (some t16_))), (5, .inr (.inr (some t15_))), (0, .inr (.inr (some 61))), (1, .inl a1), (2, .inl a2), (3, .inl v3_2), (4, .inl v4_2)]) (stₚ := [.inl (a2 * 4), .inl (a1 * 4), .inr (.inr (some 61))]) (hₚ := gc_h sh I J A) (C := (((((((True ∧ True) ∧ True) ∧ True) ∧ True) ∧ True) ∧ True) ∧ True)) rfl ⟨⟨⟨⟨⟨⟨⟨trivial, trivial⟩, trivial⟩, trivial⟩, trivial⟩, trivial⟩, trivial⟩, trivial⟩ ?_
          refine gv_run 1 true hD (pcₚ := 177) (lvₚ := [(6, .inr (.inr (some t16_))), (5, .inr (.inr (some t15_))), (0, .inr (.inr (some 61))), (1, .inl a1), (2, .inl a2), (3, .inl v3_2), (4, .inl v4_2)]) (stₚ := [.inr (.inr (some t15_)), .inl (a2 * 4), .inl (a1 * 4), .inr (.inr (some 61))]) (hₚ := gc_h sh I J A) (C := (True ∧ True)) rfl ⟨trivial, trivial⟩ ?_
          have f18 := gz_hi ((show 0 ≤ I t15_ 8 ∧ I t15_ 8 ≤ 4 from gc_in2 hI (gz_sh R_t15) rfl rfl rfl))
          refine gv_get hD rfl rfl S_t15 ⟨by decide, (gz_sh B_t15)⟩ (gc_hI S_t15 rfl) ?_
          show gv_X _ _ (180, [(6, .inr (.inr (some t16_))), (5, .inr (.inr (some t15_))), (0, .inr (.inr (some 61))), (1, .inl a1), (2, .inl a2), (3, .inl v3_2), (4, .inl v4_2)], [.inl (I t15_ 8), .inl (a2 * 4), .inl (a1 * 4), .inr (.inr (some 61))], sh, gc_h sh I J A)
          obtain ⟨r19, h19, E19, P19⟩ := d_X5_compareArguments (ws0 := ws0) (tb := tb) hws htb sh ro I J A hI  (a1 * 4) (a2 * 4) (I t15_ 8) hb   ⟨by (/-21-/first | omega | (simp only [gz_hd] at *; omega)), by (/-22-/first | omega | (simp only [gz_hd] at *; omega))⟩ ⟨by (/-23-/first | omega | (simp only [gz_hd] at *; omega)), by (/-24-/first | omega | (simp only [gz_hd] at *; omega))⟩ ⟨by (/-25-/first | (have o1 := gz_sh f18; omega) | (simp only [gz_hd] at *; omega)), by (/-26-/first | (have o1 := gz_sh f18; omega) | (simp only [gz_hd] at *; omega))⟩  
          obtain ⟨rfl, ⟨z19, rfl, q19⟩⟩ := P19
          replace q19 := gz_hi q19
          refine gv_callV hD rfl (As := [.inl (a1 * 4), .inl (a2 * 4), .inl (I t15_ 8)]) (st := []) rfl (gz_sh B_61) S_61 rfl (gc_lV5 hws rfl) (Nat.le_of_ble_eq_true rfl) (gz_Ev_mono (d := 1) (by decide) E19) ?_
          show gv_X _ _ (183, [(6, .inr (.inr (some t16_))), (5, .inr (.inr (some t15_))), (0, .inr (.inr (some 61))), (1, .inl a1), (2, .inl a2), (3, .inl v3_2), (4, .inl v4_2)], [.inl z19], sh, gc_h sh I J A)
          exact gv_iret hD rfl ⟨rfl, ⟨_, rfl, by (/-27-/first | (have o1 := gz_sh q19; omega) | (simp only [gz_hd] at *; omega))⟩⟩
        · show gv_X _ _ (129, [(6, .inr (.inr (some t16_))), (5, .inr (.inr (some t15_))), (0, .inr (.inr (some 61))), (1, .inl a1), (2, .inl a2), (3, .inl v3_2), (4, .inl v4_2)], [], sh, gc_h sh I J A)
          refine gv_run 1 true hD (pcₚ := 131) (lvₚ := [(6, .inr (.inr (some t16_))), (5, .inr (.inr (some t15_))), (0, .inr (.inr (some 61))), (1, .inl a1), (2, .inl a2), (3, .inl v3_2), (4, .inl v4_2)]) (stₚ := [.inr (.inr (some t15_))]) (hₚ := gc_h sh I J A) (C := (True ∧ True)) rfl ⟨trivial, trivial⟩ ?_
          have f20 := gz_hi ((show 0 ≤ I t15_ 1 ∧ I t15_ 1 ≤ 95 from gc_in2 hI (gz_sh R_t15) rfl rfl rfl))
          refine gv_get hD rfl rfl S_t15 ⟨by decide, (gz_sh B_t15)⟩ (gc_hI S_t15 rfl) ?_
          show gv_X _ _ (134, [(6, .inr (.inr (some t16_))), (5, .inr (.inr (some t15_))), (0, .inr (.inr (some 61))), (1, .inl a1), (2, .inl a2), (3, .inl v3_2), (4, .inl v4_2)], [.inl (I t15_ 1)], sh, gc_h sh I J A)
          refine gv_run 1 true hD (pcₚ := 136) (lvₚ := [(6, .inr (.inr (some t16_))), (5, .inr (.inr (some t15_))), (0, .inr (.inr (some 61))), (1, .inl a1), (2, .inl a2), (3, .inl v3_2), (4, .inl v4_2)]) (stₚ := [.inr (.inr (some t16_)), .inl (I t15_ 1)]) (hₚ := gc_h sh I J A) (C := (True ∧ True)) rfl ⟨trivial, trivial⟩ ?_
          have f21 := gz_hi ((show 0 ≤ I t16_ 1 ∧ I t16_ 1 ≤ 95 from gc_in2 hI (gz_sh R_t16) rfl rfl rfl))
          refine gv_get hD rfl rfl S_t16 ⟨by decide, (gz_sh B_t16)⟩ (gc_hI S_t16 rfl) ?_
          show gv_X _ _ (139, [(6, .inr (.inr (some t16_))), (5, .inr (.inr (some t15_))), (0, .inr (.inr (some 61))), (1, .inl a1), (2, .inl a2), (3, .inl v3_2), (4, .inl v4_2)], [.inl (I t16_ 1), .inl (I t15_ 1)], sh, gc_h sh I J A)
          refine gv_icmp_eq (t := 156) hD rfl rfl ⟨⟨by (/-28-/first | (have o1 := gz_sh f20; omega) | (simp only [gz_hd] at *; omega)), by (/-29-/first | (have o1 := gz_sh f20; omega) | (simp only [gz_hd] at *; omega))⟩, ⟨by (/-30-/first | (have o1 := gz_sh f21; omega) | (simp only [gz_hd] at *; omega)), by (/-31-/first | (have o1 := gz_sh f21; omega) | (simp only [gz_hd] at *; omega))⟩⟩ (fun c22 => ?_) (fun c22 => ?_)
          · show gv_X _ _ (156, [(6, .inr (.inr (some t16_))), (5, .inr (.inr (some t15_))), (0, .inr (.inr (some 61))), (1, .inl a1), (2, .inl a2), (3, .inl v3_2), (4, .inl v4_2)], [], sh, gc_h sh I J A)
            refine gv_run 1 true hD (pcₚ := 158) (lvₚ := [(6, .inr (.inr (some t16_))), (5, .inr (.inr (some t15_))), (0, .inr (.inr (some 61))), (1, .inl a1), (2, .inl a2), (3, .inl v3_2), (4, .inl v4_2)]) (stₚ := [.inr (.inr (some t15_))]) (hₚ := gc_h sh I J A) (C := (True ∧ True)) rfl ⟨trivial, trivial⟩ ?_
            have f23 := gz_hi ((show 0 ≤ I t15_ 2 ∧ I t15_ 2 ≤ 384 from gc_in2 hI (gz_sh R_t15) rfl rfl rfl))
            refine gv_get hD rfl rfl S_t15 ⟨by decide, (gz_sh B_t15)⟩ (gc_hI S_t15 rfl) ?_
            show gv_X _ _ (161, [(6, .inr (.inr (some t16_))), (5, .inr (.inr (some t15_))), (0, .inr (.inr (some 61))), (1, .inl a1), (2, .inl a2), (3, .inl v3_2), (4, .inl v4_2)], [.inl (I t15_ 2)], sh, gc_h sh I J A)
            refine gv_run 1 true hD (pcₚ := 163) (lvₚ := [(6, .inr (.inr (some t16_))), (5, .inr (.inr (some t15_))), (0, .inr (.inr (some 61))), (1, .inl a1), (2, .inl a2), (3, .inl v3_2), (4, .inl v4_2)]) (stₚ := [.inr (.inr (some t16_)), .inl (I t15_ 2)]) (hₚ := gc_h sh I J A) (C := (True ∧ True)) rfl ⟨trivial, trivial⟩ ?_
            have f24 := gz_hi ((show 0 ≤ I t16_ 2 ∧ I t16_ 2 ≤ 384 from gc_in2 hI (gz_sh R_t16) rfl rfl rfl))
            refine gv_get hD rfl rfl S_t16 ⟨by decide, (gz_sh B_t16)⟩ (gc_hI S_t16 rfl) ?_
            show gv_X _ _ (166, [(6, .inr (.inr (some t16_))), (5, .inr (.inr (some t15_))), (0, .inr (.inr (some 61))), (1, .inl a1), (2, .inl a2), (3, .inl v3_2), (4, .inl v4_2)], [.inl (I t16_ 2), .inl (I t15_ 2)], sh, gc_h sh I J A)
            refine gv_run 1 true hD (pcₚ := 167) (lvₚ := [(6, .inr (.inr (some t16_))), (5, .inr (.inr (some t15_))), (0, .inr (.inr (some 61))), (1, .inl a1), (2, .inl a2), (3, .inl v3_2), (4, .inl v4_2)]) (stₚ := [.inl ((I t15_ 2) - (I t16_ 2))]) (hₚ := gc_h sh I J A) (C := (True ∧ True)) rfl ⟨trivial, trivial⟩ ?_
            refine gv_pick [] rfl ?_
            exact L167 (((I t15_ 2) - (I t16_ 2))) (by (/-32-/first | (and_intros; (have o1 := gz_sh f23; have o2 := gz_sh f24; omega); (have o1 := gz_sh f23; have o2 := gz_sh f24; omega); (omega)) | (simp only [gz_hd] at *; omega)))
          · show gv_X _ _ (142, [(6, .inr (.inr (some t16_))), (5, .inr (.inr (some t15_))), (0, .inr (.inr (some 61))), (1, .inl a1), (2, .inl a2), (3, .inl v3_2), (4, .inl v4_2)], [], sh, gc_h sh I J A)
            refine gv_run 1 true hD (pcₚ := 144) (lvₚ := [(6, .inr (.inr (some t16_))), (5, .inr (.inr (some t15_))), (0, .inr (.inr (some 61))), (1, .inl a1), (2, .inl a2), (3, .inl v3_2), (4, .inl v4_2)]) (stₚ := [.inr (.inr (some t15_))]) (hₚ := gc_h sh I J A) (C := (True ∧ True)) rfl ⟨trivial, trivial⟩ ?_
            refine gv_get hD rfl rfl S_t15 ⟨by decide, (gz_sh B_t15)⟩ (gc_hI S_t15 rfl) ?_
            show gv_X _ _ (147, [(6, .inr (.inr (some t16_))), (5, .inr (.inr (some t15_))), (0, .inr (.inr (some 61))), (1, .inl a1), (2, .inl a2), (3, .inl v3_2), (4, .inl v4_2)], [.inl (I t15_ 1)], sh, gc_h sh I J A)
            refine gv_run 1 true hD (pcₚ := 149) (lvₚ := [(6, .inr (.inr (some t16_))), (5, .inr (.inr (some t15_))), (0, .inr (.inr (some 61))), (1, .inl a1), (2, .inl a2), (3, .inl v3_2), (4, .inl v4_2)]) (stₚ := [.inr (.inr (some t16_)), .inl (I t15_ 1)]) (hₚ := gc_h sh I J A) (C := (True ∧ True)) rfl ⟨trivial, trivial⟩ ?_
            refine gv_get hD rfl rfl S_t16 ⟨by decide, (gz_sh B_t16)⟩ (gc_hI S_t16 rfl) ?_
            show gv_X _ _ (152, [(6, .inr (.inr (some t16_))), (5, .inr (.inr (some t15_))), (0, .inr (.inr (some 61))), (1, .inl a1), (2, .inl a2), (3, .inl v3_2), (4, .inl v4_2)], [.inl (I t16_ 1), .inl (I t15_ 1)], sh, gc_h sh I J A)
            refine gv_run 2 true hD (pcₚ := 167) (lvₚ := [(6, .inr (.inr (some t16_))), (5, .inr (.inr (some t15_))), (0, .inr (.inr (some 61))), (1, .inl a1), (2, .inl a2), (3, .inl v3_2), (4, .inl v4_2)]) (stₚ := [.inl ((I t15_ 1) - (I t16_ 1))]) (hₚ := gc_h sh I J A) (C := ((True ∧ True) ∧ True)) rfl ⟨⟨trivial, trivial⟩, trivial⟩ ?_
            refine gv_pick [] rfl ?_
            exact L167 (((I t15_ 1) - (I t16_ 1))) (by (/-33-/first | (and_intros; (have o1 := gz_sh f20; have o2 := gz_sh f21; omega); (have o1 := gz_sh f20; have o2 := gz_sh f21; omega); (omega)) | (simp only [gz_hd] at *; omega)))
      · show gv_X _ _ (85, [(0, .inr (.inr (some 61))), (1, .inl a1), (2, .inl a2), (3, .inl v3_2), (4, .inl v4_2)], [], sh, gc_h sh I J A)
        refine gv_pick [3] rfl ?_
        exact L85 (by (/-34-/first | (and_intros; (have o1 := gz_sh hv3_2; omega); (omega); (omega)) | (simp only [gz_hd] at *; omega)))
  refine gv_run 1 true hD (pcₚ := 1) (lvₚ := [(0, .inr (.inr (some 61))), (1, .inl a1), (2, .inl a2)]) (stₚ := [.inr (.inr (some 61))]) (hₚ := gc_h sh I J A) (C := (True ∧ True)) rfl ⟨trivial, trivial⟩ ?_
  refine gv_get hD rfl rfl S_61 ⟨by decide, (gz_sh B_61)⟩ (gc_hA S_61 rfl A_61_1) ?_
  show gv_X _ _ (4, [(0, .inr (.inr (some 61))), (1, .inl a1), (2, .inl a2)], [.inr (.inr (some 48))], sh, gc_h sh I J A)
  refine gv_get hD rfl rfl S_48 ⟨by decide, (gz_sh B_48)⟩ (gc_hA S_48 rfl A_48_8) ?_
  show gv_X _ _ (7, [(0, .inr (.inr (some 61))), (1, .inl a1), (2, .inl a2)], [.inr (.inr (some 54))], sh, gc_h sh I J A)
  refine gv_run 1 true hD (pcₚ := 8) (lvₚ := [(0, .inr (.inr (some 61))), (1, .inl a1), (2, .inl a2)]) (stₚ := [.inl a1, .inr (.inr (some 54))]) (hₚ := gc_h sh I J A) (C := (True ∧ True)) rfl ⟨trivial, trivial⟩ ?_
  have f27 := gz_hi ((gc_b_46 hI (gz_sh R_54) (Int.toNat a1)))
  refine gv_iald hD rfl S_54 rfl ⟨by decide, (gz_sh B_54)⟩ ⟨by (/-35-/first | omega | (simp only [gz_hd] at *; omega)), by (/-36-/first | omega | (simp only [gz_hd] at *; omega))⟩ (gc_iI S_54 rfl) ?_
  show gv_X _ _ (9, [(0, .inr (.inr (some 61))), (1, .inl a1), (2, .inl a2)], [.inl (I 54 (Int.toNat a1))], sh, gc_h sh I J A)
  refine gv_run 2 true hD (pcₚ := 11) (lvₚ := [(3, .inl (I 54 (Int.toNat a1))), (0, .inr (.inr (some 61))), (1, .inl a1), (2, .inl a2)]) (stₚ := [.inr (.inr (some 61))]) (hₚ := gc_h sh I J A) (C := ((True ∧ True) ∧ True)) rfl ⟨⟨trivial, trivial⟩, trivial⟩ ?_
  refine gv_get hD rfl rfl S_61 ⟨by decide, (gz_sh B_61)⟩ (gc_hA S_61 rfl A_61_1) ?_
  show gv_X _ _ (14, [(3, .inl (I 54 (Int.toNat a1))), (0, .inr (.inr (some 61))), (1, .inl a1), (2, .inl a2)], [.inr (.inr (some 48))], sh, gc_h sh I J A)
  refine gv_get hD rfl rfl S_48 ⟨by decide, (gz_sh B_48)⟩ (gc_hA S_48 rfl A_48_8) ?_
  show gv_X _ _ (17, [(3, .inl (I 54 (Int.toNat a1))), (0, .inr (.inr (some 61))), (1, .inl a1), (2, .inl a2)], [.inr (.inr (some 54))], sh, gc_h sh I J A)
  refine gv_run 1 true hD (pcₚ := 18) (lvₚ := [(3, .inl (I 54 (Int.toNat a1))), (0, .inr (.inr (some 61))), (1, .inl a1), (2, .inl a2)]) (stₚ := [.inl a2, .inr (.inr (some 54))]) (hₚ := gc_h sh I J A) (C := (True ∧ True)) rfl ⟨trivial, trivial⟩ ?_
  have f28 := gz_hi ((gc_b_46 hI (gz_sh R_54) (Int.toNat a2)))
  refine gv_iald hD rfl S_54 rfl ⟨by decide, (gz_sh B_54)⟩ ⟨by (/-37-/first | omega | (simp only [gz_hd] at *; omega)), by (/-38-/first | omega | (simp only [gz_hd] at *; omega))⟩ (gc_iI S_54 rfl) ?_
  show gv_X _ _ (19, [(3, .inl (I 54 (Int.toNat a1))), (0, .inr (.inr (some 61))), (1, .inl a1), (2, .inl a2)], [.inl (I 54 (Int.toNat a2))], sh, gc_h sh I J A)
  refine gv_run 2 true hD (pcₚ := 22) (lvₚ := [(4, .inl (I 54 (Int.toNat a2))), (3, .inl (I 54 (Int.toNat a1))), (0, .inr (.inr (some 61))), (1, .inl a1), (2, .inl a2)]) (stₚ := [.inr (.inr (some 61))]) (hₚ := gc_h sh I J A) (C := ((True ∧ True) ∧ True)) rfl ⟨⟨trivial, trivial⟩, trivial⟩ ?_
  refine gv_get hD rfl rfl S_61 ⟨by decide, (gz_sh B_61)⟩ (gc_hA S_61 rfl A_61_1) ?_
  show gv_X _ _ (25, [(4, .inl (I 54 (Int.toNat a2))), (3, .inl (I 54 (Int.toNat a1))), (0, .inr (.inr (some 61))), (1, .inl a1), (2, .inl a2)], [.inr (.inr (some 48))], sh, gc_h sh I J A)
  refine gv_get hD rfl rfl S_48 ⟨by decide, (gz_sh B_48)⟩ (gc_hA S_48 rfl A_48_7) ?_
  show gv_X _ _ (28, [(4, .inl (I 54 (Int.toNat a2))), (3, .inl (I 54 (Int.toNat a1))), (0, .inr (.inr (some 61))), (1, .inl a1), (2, .inl a2)], [.inr (.inr (some 53))], sh, gc_h sh I J A)
  refine gv_run 1 true hD (pcₚ := 29) (lvₚ := [(4, .inl (I 54 (Int.toNat a2))), (3, .inl (I 54 (Int.toNat a1))), (0, .inr (.inr (some 61))), (1, .inl a1), (2, .inl a2)]) (stₚ := [.inl a1, .inr (.inr (some 53))]) (hₚ := gc_h sh I J A) (C := (True ∧ True)) rfl ⟨trivial, trivial⟩ ?_
  have f29 := gz_hi ((gc_b_44 hI (gz_sh R_53) (Int.toNat a1)))
  refine gv_iald hD rfl S_53 rfl ⟨by decide, (gz_sh B_53)⟩ ⟨by (/-39-/first | omega | (simp only [gz_hd] at *; omega)), by (/-40-/first | omega | (simp only [gz_hd] at *; omega))⟩ (gc_iI S_53 rfl) ?_
  show gv_X _ _ (30, [(4, .inl (I 54 (Int.toNat a2))), (3, .inl (I 54 (Int.toNat a1))), (0, .inr (.inr (some 61))), (1, .inl a1), (2, .inl a2)], [.inl (I 53 (Int.toNat a1))], sh, gc_h sh I J A)
  refine gv_run 1 true hD (pcₚ := 31) (lvₚ := [(4, .inl (I 54 (Int.toNat a2))), (3, .inl (I 54 (Int.toNat a1))), (0, .inr (.inr (some 61))), (1, .inl a1), (2, .inl a2)]) (stₚ := [.inr (.inr (some 61)), .inl (I 53 (Int.toNat a1))]) (hₚ := gc_h sh I J A) (C := (True ∧ True)) rfl ⟨trivial, trivial⟩ ?_
  refine gv_get hD rfl rfl S_61 ⟨by decide, (gz_sh B_61)⟩ (gc_hA S_61 rfl A_61_1) ?_
  show gv_X _ _ (34, [(4, .inl (I 54 (Int.toNat a2))), (3, .inl (I 54 (Int.toNat a1))), (0, .inr (.inr (some 61))), (1, .inl a1), (2, .inl a2)], [.inr (.inr (some 48)), .inl (I 53 (Int.toNat a1))], sh, gc_h sh I J A)
  refine gv_get hD rfl rfl S_48 ⟨by decide, (gz_sh B_48)⟩ (gc_hA S_48 rfl A_48_7) ?_
  show gv_X _ _ (37, [(4, .inl (I 54 (Int.toNat a2))), (3, .inl (I 54 (Int.toNat a1))), (0, .inr (.inr (some 61))), (1, .inl a1), (2, .inl a2)], [.inr (.inr (some 53)), .inl (I 53 (Int.toNat a1))], sh, gc_h sh I J A)
  refine gv_run 1 true hD (pcₚ := 38) (lvₚ := [(4, .inl (I 54 (Int.toNat a2))), (3, .inl (I 54 (Int.toNat a1))), (0, .inr (.inr (some 61))), (1, .inl a1), (2, .inl a2)]) (stₚ := [.inl a2, .inr (.inr (some 53)), .inl (I 53 (Int.toNat a1))]) (hₚ := gc_h sh I J A) (C := (True ∧ True)) rfl ⟨trivial, trivial⟩ ?_
  have f30 := gz_hi ((gc_b_44 hI (gz_sh R_53) (Int.toNat a2)))
  refine gv_iald hD rfl S_53 rfl ⟨by decide, (gz_sh B_53)⟩ ⟨by (/-41-/first | omega | (simp only [gz_hd] at *; omega)), by (/-42-/first | omega | (simp only [gz_hd] at *; omega))⟩ (gc_iI S_53 rfl) ?_
  show gv_X _ _ (39, [(4, .inl (I 54 (Int.toNat a2))), (3, .inl (I 54 (Int.toNat a1))), (0, .inr (.inr (some 61))), (1, .inl a1), (2, .inl a2)], [.inl (I 53 (Int.toNat a2)), .inl (I 53 (Int.toNat a1))], sh, gc_h sh I J A)
  refine gv_icmp_eq (t := 62) hD rfl rfl ⟨⟨by (/-43-/first | (have o1 := gz_sh f29; omega) | (simp only [gz_hd] at *; omega)), by (/-44-/first | (have o1 := gz_sh f29; omega) | (simp only [gz_hd] at *; omega))⟩, ⟨by (/-45-/first | (have o1 := gz_sh f30; omega) | (simp only [gz_hd] at *; omega)), by (/-46-/first | (have o1 := gz_sh f30; omega) | (simp only [gz_hd] at *; omega))⟩⟩ (fun c31 => ?_) (fun c31 => ?_)
  · show gv_X _ _ (62, [(4, .inl (I 54 (Int.toNat a2))), (3, .inl (I 54 (Int.toNat a1))), (0, .inr (.inr (some 61))), (1, .inl a1), (2, .inl a2)], [], sh, gc_h sh I J A)
    refine gv_run 1 true hD (pcₚ := 63) (lvₚ := [(4, .inl (I 54 (Int.toNat a2))), (3, .inl (I 54 (Int.toNat a1))), (0, .inr (.inr (some 61))), (1, .inl a1), (2, .inl a2)]) (stₚ := [.inl (I 54 (Int.toNat a1))]) (hₚ := gc_h sh I J A) (C := (True ∧ True)) rfl ⟨trivial, trivial⟩ ?_
    refine gv_if_lt (t := 76) hD rfl rfl ⟨by (/-47-/first | (have o1 := gz_sh f27; omega) | (simp only [gz_hd] at *; omega)), by (/-48-/first | (have o1 := gz_sh f27; omega) | (simp only [gz_hd] at *; omega))⟩ (fun c32 => ?_) (fun c32 => ?_)
    · show gv_X _ _ (76, [(4, .inl (I 54 (Int.toNat a2))), (3, .inl (I 54 (Int.toNat a1))), (0, .inr (.inr (some 61))), (1, .inl a1), (2, .inl a2)], [], sh, gc_h sh I J A)
      refine gv_pick [2, 3, 4, 1, 0] rfl ?_
      exact L76 ((I 54 (Int.toNat a1))) ((I 54 (Int.toNat a2))) (by (/-49-/first | (and_intros; (omega); (omega); (omega); (omega); (have o1 := gz_sh f27; omega); (omega); (have o1 := gz_sh f28; omega); (have o1 := gz_sh f28; omega); (omega); (omega); (omega)) | (simp only [gz_hd] at *; omega)))
    · show gv_X _ _ (66, [(4, .inl (I 54 (Int.toNat a2))), (3, .inl (I 54 (Int.toNat a1))), (0, .inr (.inr (some 61))), (1, .inl a1), (2, .inl a2)], [], sh, gc_h sh I J A)
      refine gv_run 1 true hD (pcₚ := 68) (lvₚ := [(4, .inl (I 54 (Int.toNat a2))), (3, .inl (I 54 (Int.toNat a1))), (0, .inr (.inr (some 61))), (1, .inl a1), (2, .inl a2)]) (stₚ := [.inl (I 54 (Int.toNat a2))]) (hₚ := gc_h sh I J A) (C := (True ∧ True)) rfl ⟨trivial, trivial⟩ ?_
      refine gv_if_lt (t := 76) hD rfl rfl ⟨by (/-50-/first | (have o1 := gz_sh f28; omega) | (simp only [gz_hd] at *; omega)), by (/-51-/first | (have o1 := gz_sh f28; omega) | (simp only [gz_hd] at *; omega))⟩ (fun c33 => ?_) (fun c33 => ?_)
      · show gv_X _ _ (76, [(4, .inl (I 54 (Int.toNat a2))), (3, .inl (I 54 (Int.toNat a1))), (0, .inr (.inr (some 61))), (1, .inl a1), (2, .inl a2)], [], sh, gc_h sh I J A)
        refine gv_pick [2, 3, 4, 1, 0] rfl ?_
        exact L76 ((I 54 (Int.toNat a1))) ((I 54 (Int.toNat a2))) (by (/-52-/first | (and_intros; (omega); (omega); (omega); (omega); (omega); (have o1 := gz_sh f27; omega); (have o1 := gz_sh f28; omega); (omega); (omega); (omega); (omega)) | (simp only [gz_hd] at *; omega)))
      · show gv_X _ _ (71, [(4, .inl (I 54 (Int.toNat a2))), (3, .inl (I 54 (Int.toNat a1))), (0, .inr (.inr (some 61))), (1, .inl a1), (2, .inl a2)], [], sh, gc_h sh I J A)
        refine gv_run 3 true hD (pcₚ := 75) (lvₚ := [(4, .inl (I 54 (Int.toNat a2))), (3, .inl (I 54 (Int.toNat a1))), (0, .inr (.inr (some 61))), (1, .inl a1), (2, .inl a2)]) (stₚ := [.inl ((I 54 (Int.toNat a1)) - (I 54 (Int.toNat a2)))]) (hₚ := gc_h sh I J A) (C := (((True ∧ True) ∧ True) ∧ True)) rfl ⟨⟨⟨trivial, trivial⟩, trivial⟩, trivial⟩ ?_
        exact gv_iret hD rfl ⟨rfl, ⟨_, rfl, by (/-53-/first | (and_intros; (have o1 := gz_sh f28; omega); (have o1 := gz_sh f27; omega)) | (simp only [gz_hd] at *; omega))⟩⟩
  · show gv_X _ _ (42, [(4, .inl (I 54 (Int.toNat a2))), (3, .inl (I 54 (Int.toNat a1))), (0, .inr (.inr (some 61))), (1, .inl a1), (2, .inl a2)], [], sh, gc_h sh I J A)
    refine gv_run 1 true hD (pcₚ := 43) (lvₚ := [(4, .inl (I 54 (Int.toNat a2))), (3, .inl (I 54 (Int.toNat a1))), (0, .inr (.inr (some 61))), (1, .inl a1), (2, .inl a2)]) (stₚ := [.inr (.inr (some 61))]) (hₚ := gc_h sh I J A) (C := (True ∧ True)) rfl ⟨trivial, trivial⟩ ?_
    refine gv_get hD rfl rfl S_61 ⟨by decide, (gz_sh B_61)⟩ (gc_hA S_61 rfl A_61_1) ?_
    show gv_X _ _ (46, [(4, .inl (I 54 (Int.toNat a2))), (3, .inl (I 54 (Int.toNat a1))), (0, .inr (.inr (some 61))), (1, .inl a1), (2, .inl a2)], [.inr (.inr (some 48))], sh, gc_h sh I J A)
    refine gv_get hD rfl rfl S_48 ⟨by decide, (gz_sh B_48)⟩ (gc_hA S_48 rfl A_48_7) ?_
    show gv_X _ _ (49, [(4, .inl (I 54 (Int.toNat a2))), (3, .inl (I 54 (Int.toNat a1))), (0, .inr (.inr (some 61))), (1, .inl a1), (2, .inl a2)], [.inr (.inr (some 53))], sh, gc_h sh I J A)
    refine gv_run 1 true hD (pcₚ := 50) (lvₚ := [(4, .inl (I 54 (Int.toNat a2))), (3, .inl (I 54 (Int.toNat a1))), (0, .inr (.inr (some 61))), (1, .inl a1), (2, .inl a2)]) (stₚ := [.inl a1, .inr (.inr (some 53))]) (hₚ := gc_h sh I J A) (C := (True ∧ True)) rfl ⟨trivial, trivial⟩ ?_
    refine gv_iald hD rfl S_53 rfl ⟨by decide, (gz_sh B_53)⟩ ⟨by (/-54-/first | omega | (simp only [gz_hd] at *; omega)), by (/-55-/first | omega | (simp only [gz_hd] at *; omega))⟩ (gc_iI S_53 rfl) ?_
    show gv_X _ _ (51, [(4, .inl (I 54 (Int.toNat a2))), (3, .inl (I 54 (Int.toNat a1))), (0, .inr (.inr (some 61))), (1, .inl a1), (2, .inl a2)], [.inl (I 53 (Int.toNat a1))], sh, gc_h sh I J A)
    refine gv_run 1 true hD (pcₚ := 52) (lvₚ := [(4, .inl (I 54 (Int.toNat a2))), (3, .inl (I 54 (Int.toNat a1))), (0, .inr (.inr (some 61))), (1, .inl a1), (2, .inl a2)]) (stₚ := [.inr (.inr (some 61)), .inl (I 53 (Int.toNat a1))]) (hₚ := gc_h sh I J A) (C := (True ∧ True)) rfl ⟨trivial, trivial⟩ ?_
    refine gv_get hD rfl rfl S_61 ⟨by decide, (gz_sh B_61)⟩ (gc_hA S_61 rfl A_61_1) ?_
    show gv_X _ _ (55, [(4, .inl (I 54 (Int.toNat a2))), (3, .inl (I 54 (Int.toNat a1))), (0, .inr (.inr (some 61))), (1, .inl a1), (2, .inl a2)], [.inr (.inr (some 48)), .inl (I 53 (Int.toNat a1))], sh, gc_h sh I J A)
    refine gv_get hD rfl rfl S_48 ⟨by decide, (gz_sh B_48)⟩ (gc_hA S_48 rfl A_48_7) ?_
    show gv_X _ _ (58, [(4, .inl (I 54 (Int.toNat a2))), (3, .inl (I 54 (Int.toNat a1))), (0, .inr (.inr (some 61))), (1, .inl a1), (2, .inl a2)], [.inr (.inr (some 53)), .inl (I 53 (Int.toNat a1))], sh, gc_h sh I J A)
    refine gv_run 1 true hD (pcₚ := 59) (lvₚ := [(4, .inl (I 54 (Int.toNat a2))), (3, .inl (I 54 (Int.toNat a1))), (0, .inr (.inr (some 61))), (1, .inl a1), (2, .inl a2)]) (stₚ := [.inl a2, .inr (.inr (some 53)), .inl (I 53 (Int.toNat a1))]) (hₚ := gc_h sh I J A) (C := (True ∧ True)) rfl ⟨trivial, trivial⟩ ?_
    refine gv_iald hD rfl S_53 rfl ⟨by decide, (gz_sh B_53)⟩ ⟨by (/-56-/first | omega | (simp only [gz_hd] at *; omega)), by (/-57-/first | omega | (simp only [gz_hd] at *; omega))⟩ (gc_iI S_53 rfl) ?_
    show gv_X _ _ (60, [(4, .inl (I 54 (Int.toNat a2))), (3, .inl (I 54 (Int.toNat a1))), (0, .inr (.inr (some 61))), (1, .inl a1), (2, .inl a2)], [.inl (I 53 (Int.toNat a2)), .inl (I 53 (Int.toNat a1))], sh, gc_h sh I J A)
    refine gv_run 1 true hD (pcₚ := 61) (lvₚ := [(4, .inl (I 54 (Int.toNat a2))), (3, .inl (I 54 (Int.toNat a1))), (0, .inr (.inr (some 61))), (1, .inl a1), (2, .inl a2)]) (stₚ := [.inl ((I 53 (Int.toNat a1)) - (I 53 (Int.toNat a2)))]) (hₚ := gc_h sh I J A) (C := (True ∧ True)) rfl ⟨trivial, trivial⟩ ?_
    exact gv_iret hD rfl ⟨rfl, ⟨_, rfl, by (/-58-/first | (and_intros; (have o1 := gz_sh f29; have o2 := gz_sh f30; omega); (have o1 := gz_sh f29; have o2 := gz_sh f30; omega)) | (simp only [gz_hd] at *; omega))⟩⟩
