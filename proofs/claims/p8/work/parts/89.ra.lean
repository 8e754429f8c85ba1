set_option maxHeartbeats 8000000 in
theorem gc_mulb {x y : Int} (hx : 1 ≤ x ∧ x ≤ 32) (hy : 1 ≤ y ∧ y ≤ 32) : 1 ≤ x * y ∧ x * y ≤ 1024 := by
  have h1 : 1 * 1 ≤ x * y := Int.mul_le_mul hx.1 hy.1 (by exact gz_m 0 (by omega)) (by exact gz_m 1 (by omega))
  have h2 : x * y ≤ 32 * 32 := Int.mul_le_mul hx.2 hy.2 (by exact gz_m 2 (by omega)) (by exact gz_m 3 (by omega))
  exact gz_m 4 (by omega)
def gc_ws (σ : Nat → Int) (I : gr_I) (k : Nat) : Int := if 0 ≤ I 54 k then 0 else σ (Int.toNat (-1 - I 54 k))
theorem gc_ws_fr {σ : Nat → Int} {I I' : gr_I} {k : Nat} (r : ∀ k, I' 54 k = I 54 k) : gc_ws σ I' k = gc_ws σ I k := by
  unfold gc_ws
  rw [r]
theorem gc_sl_ws {sh : gz_Sh} {ro : Nat → Nat} {A : gc_A} {t k : Nat} {σ : Nat → Int} {I : gr_I} (hL : gc_Ls sh ro A t I) (hW : gc_WV t I) (hS : ∀ i q : Nat, (i : Int) < I t 13 → A (t + 16) i = some q → I q 8 = σ i) (hk : (k : Int) < I 48 6) : gc_sl A I t k = gc_ws σ I k := by
  unfold gc_ws
  by_cases h : 0 ≤ I 54 k
  · rw [if_pos h, gc_sl_0 h]
  · rw [if_neg h]
    have h1 := (hW k hk).resolve_left h
    obtain ⟨q, h2, -, -, -, -⟩ := hL (Int.toNat (-1 - I 54 k)) (by exact gz_m 0 (by omega))
    rw [gc_sl_1 (by exact gz_m 1 (by omega)) h2]
    exact hS _ q (by exact gz_m 2 (by omega)) h2
def gc_dg (z : Int) : Nat → Int
  | 0 => z % 16
  | 1 => z / 16 % 16
  | 2 => z / 256 % 16
  | 3 => z / 4096 % 16
  | _ => 0
def gc_pw : Nat → Int
  | 0 => 1
  | 1 => 16
  | 2 => 256
  | 3 => 4096
  | _ => 65536
set_option maxHeartbeats 8000000 in
theorem gc_nn {x : Int} (h : 0 ≤ x ∧ x ≤ 2147483647) : (Int32.ofInt x).toBitVec.toNat = x.toNat := by
  have e2 : ((Int32.ofInt x).toBitVec).toInt = x := gz_toInt ⟨by exact gz_m 0 (by omega), by exact gz_m 1 (by omega)⟩
  have hm : (Int32.ofInt x).toBitVec.msb = false := by
    rw [BitVec.msb_eq_toInt, e2]
    simp only [decide_eq_false_iff_not]
    exact gz_m 2 (by omega)
  have h9 := BitVec.toInt_eq_toNat_of_msb hm
  rw [e2] at h9
  exact gz_m 3 (by omega)
theorem gc_orp {a b : Int} (k : Nat) (ha : 0 ≤ a ∧ a < ((2 ^ k : Nat) : Int)) (hb : 0 ≤ b) (hs : a + b * ((2 ^ k : Nat) : Int) ≤ 2147483647) (h0 : b * ((2 ^ k : Nat) : Int) ≤ 2147483647) (h1 : a ≤ 2147483647) : (Int32.ofInt a ||| Int32.ofInt (b * ((2 ^ k : Nat) : Int))).toInt = a + b * ((2 ^ k : Nat) : Int) := by
  have hc : 0 ≤ b * ((2 ^ k : Nat) : Int) := Int.mul_nonneg hb (by exact gz_m 0 (by omega))
  have e : (Int32.ofInt a ||| Int32.ofInt (b * ((2 ^ k : Nat) : Int))).toBitVec.toNat = a.toNat ||| (b * ((2 ^ k : Nat) : Int)).toNat := by
    show ((Int32.ofInt a).toBitVec ||| (Int32.ofInt (b * ((2 ^ k : Nat) : Int))).toBitVec).toNat = _
    rw [BitVec.toNat_or, gc_nn ⟨ha.1, h1⟩, gc_nn ⟨hc, h0⟩]
  have e2 : (b * ((2 ^ k : Nat) : Int)).toNat = b.toNat <<< k := by
    rw [Nat.shiftLeft_eq]
    have h9 : ((b.toNat * 2 ^ k : Nat) : Int) = b * ((2 ^ k : Nat) : Int) := by
      rw [Int.natCast_mul, Int.toNat_of_nonneg hb]
    exact gz_m 1 (by omega)
  have e3 : a.toNat ||| b.toNat <<< k = b.toNat <<< k + a.toNat := by
    rw [Nat.or_comm, Nat.shiftLeft_add_eq_or_of_lt (by exact gz_m 2 (by omega))]
  rw [e2, e3, ← e2] at e
  show ((Int32.ofInt a ||| Int32.ofInt (b * ((2 ^ k : Nat) : Int))).toBitVec).toInt = _
  rw [BitVec.toInt_eq_toNat_of_lt (by exact gz_m 3 (by omega))]
  exact gz_m 4 (by omega)
theorem gc_shl4 {r s : Int} (hr : 0 ≤ r ∧ r ≤ 15) (hs : 0 ≤ s ∧ s ≤ 3) : (Int32.ofInt r <<< (Int32.ofInt (4 * s) &&& 31)).toInt = r * gc_pw (Int.toNat s) := by
  have key : ∀ a : Fin 16, ∀ b : Fin 4, (Int32.ofInt (a.val : Int) <<< (Int32.ofInt (4 * (b.val : Int)) &&& 31)).toInt = (a.val : Int) * gc_pw b.val := by decide +kernel
  have h := key ⟨r.toNat, by exact gz_m 0 (by omega)⟩ ⟨s.toNat, by exact gz_m 1 (by omega)⟩
  have e1 : ((r.toNat : Nat) : Int) = r := by exact gz_m 2 (by omega)
  have e2 : ((s.toNat : Nat) : Int) = s := by exact gz_m 3 (by omega)
  dsimp only at h
  rw [e1, e2] at h
  exact h
theorem gc_orsh {a r s : Int} (ha : 0 ≤ a ∧ a < gc_pw (Int.toNat s)) (hr : 0 ≤ r ∧ r ≤ 15) (hs : 0 ≤ s ∧ s ≤ 3) : (Int32.ofInt a ||| Int32.ofInt ((Int32.ofInt r <<< (Int32.ofInt (4 * s) &&& 31)).toInt)).toInt = a + r * gc_pw (Int.toNat s) := by
  rw [gc_shl4 hr hs]
  rcases (show s = 0 ∨ s = 1 ∨ s = 2 ∨ s = 3 from by exact gz_m 0 (by omega)) with rfl | rfl | rfl | rfl
  · have ha : 0 ≤ a ∧ a < 1 := ha
    exact gc_orp 0 ha hr.1 (show a + r * 1 ≤ _ from by exact gz_m 1 (by omega)) (show r * 1 ≤ _ from by exact gz_m 2 (by omega)) (by exact gz_m 3 (by omega))
  · have ha : 0 ≤ a ∧ a < 16 := ha
    exact gc_orp 4 ha hr.1 (show a + r * 16 ≤ _ from by exact gz_m 4 (by omega)) (show r * 16 ≤ _ from by exact gz_m 5 (by omega)) (by exact gz_m 6 (by omega))
  · have ha : 0 ≤ a ∧ a < 256 := ha
    exact gc_orp 8 ha hr.1 (show a + r * 256 ≤ _ from by exact gz_m 7 (by omega)) (show r * 256 ≤ _ from by exact gz_m 8 (by omega)) (by exact gz_m 9 (by omega))
  · have ha : 0 ≤ a ∧ a < 4096 := ha
    exact gc_orp 12 ha hr.1 (show a + r * 4096 ≤ _ from by exact gz_m 10 (by omega)) (show r * 4096 ≤ _ from by exact gz_m 11 (by omega)) (by exact gz_m 12 (by omega))
def gc_RK (w sl rk : Int) (I : gr_I) : Prop := 0 ≤ rk ∧ rk < gc_pw (Int.toNat sl) ∧ ∀ s : Int, 0 ≤ s → s < sl → gc_dg rk (Int.toNat s) < I 67 (Int.toNat (I 55 (Int.toNat (w * 4 + s))))
theorem gc_RK_mo {w sl rk : Int} {I I' : gr_I} (h : gc_RK w sl rk I) (r5 : ∀ k, I' 55 k = I 55 k) (h7 : ∀ k, I 67 k ≤ I' 67 k) : gc_RK w sl rk I' := ⟨h.1, h.2.1, fun s h0 h1 => by
  rw [r5]
  have h2 := h.2.2 s h0 h1
  have h3 := h7 (Int.toNat (I 55 (Int.toNat (w * 4 + s))))
  omega⟩
set_option maxHeartbeats 8000000 in
theorem gc_RK_nx {w sl rk r : Int} {I : gr_I} (h : gc_RK w sl rk I) (hs : 0 ≤ sl ∧ sl ≤ 3) (hr : 0 ≤ r ∧ r ≤ 15) (hz : r < I 67 (Int.toNat (I 55 (Int.toNat (w * 4 + sl))))) : gc_RK w (sl + 1) ((Int32.ofInt rk ||| Int32.ofInt ((Int32.ofInt r <<< (Int32.ofInt (4 * sl) &&& 31)).toInt)).toInt) I := by
  obtain ⟨h1, h2, h3⟩ := h
  rw [gc_orsh ⟨h1, h2⟩ hr hs]
  rcases (show sl = 0 ∨ sl = 1 ∨ sl = 2 ∨ sl = 3 from by exact gz_m 0 (by omega)) with rfl | rfl | rfl | rfl
  · have h2 : rk < 1 := h2
    refine ⟨show 0 ≤ rk + r * 1 from by exact gz_m 1 (by omega), show rk + r * 1 < 16 from by exact gz_m 2 (by omega), fun s h4 h5 => ?_⟩
    have e : s = 0 := by exact gz_m 3 (by omega)
    subst e
    have e2 : gc_dg (rk + r * gc_pw (Int.toNat 0)) (Int.toNat 0) = r := (show (rk + r * 1) % 16 = r from by exact gz_m 4 (by omega))
    rw [e2]; exact hz
  · have h2 : rk < 16 := h2
    refine ⟨show 0 ≤ rk + r * 16 from by exact gz_m 5 (by omega), show rk + r * 16 < 256 from by exact gz_m 6 (by omega), fun s h4 h5 => ?_⟩
    rcases (show s = 0 ∨ s = 1 from by exact gz_m 7 (by omega)) with rfl | rfl
    · have e2 : gc_dg (rk + r * gc_pw (Int.toNat 1)) (Int.toNat 0) = gc_dg rk (Int.toNat 0) := (show (rk + r * 16) % 16 = rk % 16 from by exact gz_m 8 (by omega))
      rw [e2]; exact h3 0 (by exact gz_m 9 (by omega)) (by exact gz_m 10 (by omega))
    · have e2 : gc_dg (rk + r * gc_pw (Int.toNat 1)) (Int.toNat 1) = r := (show (rk + r * 16) / 16 % 16 = r from by exact gz_m 11 (by omega))
      rw [e2]; exact hz
  · have h2 : rk < 256 := h2
    refine ⟨show 0 ≤ rk + r * 256 from by exact gz_m 12 (by omega), show rk + r * 256 < 4096 from by exact gz_m 13 (by omega), fun s h4 h5 => ?_⟩
    rcases (show s = 0 ∨ s = 1 ∨ s = 2 from by exact gz_m 14 (by omega)) with rfl | rfl | rfl
    · have e2 : gc_dg (rk + r * gc_pw (Int.toNat 2)) (Int.toNat 0) = gc_dg rk (Int.toNat 0) := (show (rk + r * 256) % 16 = rk % 16 from by exact gz_m 15 (by omega))
      rw [e2]; exact h3 0 (by exact gz_m 16 (by omega)) (by exact gz_m 17 (by omega))
    · have e2 : gc_dg (rk + r * gc_pw (Int.toNat 2)) (Int.toNat 1) = gc_dg rk (Int.toNat 1) := (show (rk + r * 256) / 16 % 16 = rk / 16 % 16 from by exact gz_m 18 (by omega))
      rw [e2]; exact h3 1 (by exact gz_m 19 (by omega)) (by exact gz_m 20 (by omega))
    · have e2 : gc_dg (rk + r * gc_pw (Int.toNat 2)) (Int.toNat 2) = r := (show (rk + r * 256) / 256 % 16 = r from by exact gz_m 21 (by omega))
      rw [e2]; exact hz
  · have h2 : rk < 4096 := h2
    refine ⟨show 0 ≤ rk + r * 4096 from by exact gz_m 22 (by omega), show rk + r * 4096 < 65536 from by exact gz_m 23 (by omega), fun s h4 h5 => ?_⟩
    rcases (show s = 0 ∨ s = 1 ∨ s = 2 ∨ s = 3 from by exact gz_m 24 (by omega)) with rfl | rfl | rfl | rfl
    · have e2 : gc_dg (rk + r * gc_pw (Int.toNat 3)) (Int.toNat 0) = gc_dg rk (Int.toNat 0) := (show (rk + r * 4096) % 16 = rk % 16 from by exact gz_m 25 (by omega))
      rw [e2]; exact h3 0 (by exact gz_m 26 (by omega)) (by exact gz_m 27 (by omega))
    · have e2 : gc_dg (rk + r * gc_pw (Int.toNat 3)) (Int.toNat 1) = gc_dg rk (Int.toNat 1) := (show (rk + r * 4096) / 16 % 16 = rk / 16 % 16 from by exact gz_m 28 (by omega))
      rw [e2]; exact h3 1 (by exact gz_m 29 (by omega)) (by exact gz_m 30 (by omega))
    · have e2 : gc_dg (rk + r * gc_pw (Int.toNat 3)) (Int.toNat 2) = gc_dg rk (Int.toNat 2) := (show (rk + r * 4096) / 256 % 16 = rk / 256 % 16 from by exact gz_m 31 (by omega))
      rw [e2]; exact h3 2 (by exact gz_m 32 (by omega)) (by exact gz_m 33 (by omega))
    · have e2 : gc_dg (rk + r * gc_pw (Int.toNat 3)) (Int.toNat 3) = r := (show (rk + r * 4096) / 4096 % 16 = r from by exact gz_m 34 (by omega))
      rw [e2]; exact hz
def gc_va (σ : Nat → Int) (I : gr_I) (w rk : Int) : Prop := w < I 48 6 ∧ ∀ s : Int, 0 ≤ s → s < 4 → s < gc_ws σ I (Int.toNat w) → gc_dg rk (Int.toNat s) < I 67 (Int.toNat (I 55 (Int.toNat (w * 4 + s))))
theorem gc_va_fr {σ : Nat → Int} {I I' : gr_I} {w rk : Int} (h : gc_va σ I w rk) (h6 : I' 48 6 = I 48 6) (r4 : ∀ k, I' 54 k = I 54 k) (r5 : ∀ k, I' 55 k = I 55 k) (h7 : ∀ k, I 67 k ≤ I' 67 k) : gc_va σ I' w rk := ⟨by have := h.1; omega, fun s a b c => by
  rw [gc_ws_fr r4] at c
  rw [r5]
  have h2 := h.2 s a b c
  have h3 := h7 (Int.toNat (I 55 (Int.toNat (w * 4 + s))))
  omega⟩
def gc_LH (σ : Nat → Int) (o : Int) (I : gr_I) : Prop := ∀ e : Nat, ¬ (e : Int) = o → e < 48000 → ((e / 16 : Nat) : Int) < I 48 3 → ((e % 16 : Nat) : Int) < I 67 (e / 16) → gc_va σ I (I 69 e) (I 70 e)
theorem gc_LH_fr {σ : Nat → Int} {o : Int} {I I' : gr_I} (h : gc_LH σ o I) (h6 : I' 48 6 = I 48 6) (h3 : I' 48 3 = I 48 3) (r4 : ∀ k, I' 54 k = I 54 k) (r5 : ∀ k, I' 55 k = I 55 k) (r7 : ∀ k, I' 67 k = I 67 k) (r9 : ∀ k, I' 69 k = I 69 k) (r0 : ∀ k, I' 70 k = I 70 k) : gc_LH σ o I' := fun e h1 h2 h4 h5 => by
  rw [r9, r0]
  rw [r7] at h5
  exact gc_va_fr (h e h1 h2 (by omega) h5) h6 r4 r5 (fun k => by rw [r7]; omega)
theorem gc_LH_any {σ : Nat → Int} {o : Int} {I : gr_I} (h : gc_LH σ (-1) I) : gc_LH σ o I := fun e _ h2 h4 h5 => h e (by omega) h2 h4 h5
set_option maxHeartbeats 8000000 in
theorem gc_LH_0 {σ : Nat → Int} {o : Int} {I : gr_I} (h : gc_rg 67 I (I 48 3) 0 0) : gc_LH σ o I := fun e _ h2 h4 h5 => by
  have h9 := h ((e / 16 : Nat) : Int) (by exact gz_m 0 (by omega)) h4
  rw [show Int.toNat ((e / 16 : Nat) : Int) = e / 16 from by exact gz_m 1 (by omega)] at h9
  exact gz_m 2 (by omega)
theorem gc_LH_gr {σ : Nat → Int} {I I' : gr_I} {n : Nat} {o : Int} (h : gc_LH σ (-1) I) (p : ∀ q j, ¬ (q = 67 ∧ j = n) → I' q j = I q j) (hq : I' 67 n = I 67 n + 1) (ho : o = 16 * (n : Int) + I 67 n) : gc_LH σ o I' := fun e h1 h2 h4 h5 => by
  have r : ∀ P, ¬ P = 67 → ∀ k, I' P k = I P k := fun P hP k => p P k (fun h9 => hP h9.1)
  rw [r 69 (by decide), r 70 (by decide)]
  rw [r 48 (by decide)] at h4
  refine gc_va_fr (h e (by exact gz_m 0 (by omega)) h2 h4 ?_) (r 48 (by decide) 6) (r 54 (by decide)) (r 55 (by decide)) (fun k => ?_)
  · by_cases hn : e / 16 = n
    · rw [hn, hq] at h5
      rw [hn]
      exact gz_m 1 (by omega)
    · rw [p 67 _ (fun h9 => hn h9.2)] at h5
      exact h5
  · by_cases hn : k = n
    · rw [hn, hq]; exact gz_m 2 (by omega)
    · rw [p 67 k (fun h9 => hn h9.2)]; exact gz_m 3 (by omega)
theorem gc_LH_mv {σ : Nat → Int} {o : Int} {I I' : gr_I} (h : gc_LH σ o I) (h6 : I' 48 6 = I 48 6) (h3 : I' 48 3 = I 48 3) (r4 : ∀ k, I' 54 k = I 54 k) (r5 : ∀ k, I' 55 k = I 55 k) (r7 : ∀ k, I' 67 k = I 67 k) (r9 : ∀ k, ¬ k = Int.toNat o → I' 69 k = I 69 k) (r0 : ∀ k, ¬ k = Int.toNat o → I' 70 k = I 70 k) (z9 : I' 69 (Int.toNat o) = I 69 (Int.toNat (o - 1))) (z0 : I' 70 (Int.toNat o) = I 70 (Int.toNat (o - 1))) (ho : 1 ≤ o ∧ o < 48000) {n : Nat} (hn : 16 * (n : Int) ≤ o - 1 ∧ o - 1 < 16 * (n : Int) + 16) (hl : (n : Int) < I 48 3 ∧ o - 1 - 16 * (n : Int) < I 67 n) : gc_LH σ (o + (-1)) I' := fun e h1 h2 h4 h5 => by
  rw [r7] at h5
  by_cases he : e = Int.toNat o
  · subst he
    rw [z9, z0]
    have en : Int.toNat (o - 1) / 16 = n := by exact gz_m 0 (by omega)
    refine gc_va_fr (h (Int.toNat (o - 1)) (by exact gz_m 1 (by omega)) (by exact gz_m 2 (by omega)) (by rw [en]; exact gz_m 3 (by omega)) (by rw [en]; exact gz_m 4 (by omega))) h6 r4 r5 (fun k => by rw [r7]; exact gz_m 5 (by omega))
  · rw [r9 e he, r0 e he]
    exact gc_va_fr (h e (by exact gz_m 6 (by omega)) h2 (by exact gz_m 7 (by omega)) h5) h6 r4 r5 (fun k => by rw [r7]; exact gz_m 8 (by omega))
theorem gc_LH_pt {σ : Nat → Int} {o : Int} {I I' : gr_I} (h : gc_LH σ o I) (h6 : I' 48 6 = I 48 6) (h3 : I' 48 3 = I 48 3) (r4 : ∀ k, I' 54 k = I 54 k) (r5 : ∀ k, I' 55 k = I 55 k) (r7 : ∀ k, I' 67 k = I 67 k) (r9 : ∀ k, ¬ k = Int.toNat o → I' 69 k = I 69 k) (r0 : ∀ k, ¬ k = Int.toNat o → I' 70 k = I 70 k) (h0 : 0 ≤ o) (hz : gc_va σ I' (I' 69 (Int.toNat o)) (I' 70 (Int.toNat o))) : gc_LH σ (-1) I' := fun e h1 h2 h4 h5 => by
  rw [r7] at h5
  by_cases he : e = Int.toNat o
  · subst he; exact hz
  · rw [r9 e he, r0 e he]
    exact gc_va_fr (h e (by exact gz_m 0 (by omega)) h2 (by exact gz_m 1 (by omega)) h5) h6 r4 r5 (fun k => by rw [r7]; exact gz_m 2 (by omega))
def gc_OR (I : gr_I) : Prop := (0 ≤ I 61 9 ∧ I 61 9 ≤ 1) ∧ ∀ i : Nat, (i : Int) < I 61 8 → I (61 + 4 + 1 * Int.toNat (I 61 9)) i < I 48 6
theorem gc_OR_fr {I I' : gr_I} (h : gc_OR I) (h8 : I' 61 8 = I 61 8) (ho : I' 61 9 = I 61 9) (h6 : I' 48 6 = I 48 6) (h1 : ∀ k, I' 65 k = I 65 k) (h2 : ∀ k, I' 66 k = I 66 k) : gc_OR I' := by
  refine ⟨by rw [ho]; exact h.1, fun i hi => ?_⟩
  have h9 := h.2 i (by omega)
  have hr := h.1
  rw [ho, h6]
  rcases (show 61 + 4 + 1 * Int.toNat (I 61 9) = 65 ∨ 61 + 4 + 1 * Int.toNat (I 61 9) = 66 from by omega) with e | e <;> rw [e] at h9 ⊢
  · rw [h1]; exact h9
  · rw [h2]; exact h9
theorem gc_OR_at {I : gr_I} {f i : Nat} (h : gc_OR I) (hq : 61 + 4 + 1 * Int.toNat (I 61 9) = f) (hi : (i : Int) < I 61 8) : I f i < I 48 6 := by
  rw [← hq]
  exact h.2 i hi
theorem gc_OR_0 {I : gr_I} (hr : 0 ≤ I 61 9 ∧ I 61 9 ≤ 1) (h : I 61 8 ≤ 0) : gc_OR I := ⟨hr, fun i hi => by omega⟩
set_option maxHeartbeats 8000000 in
theorem gc_OR_push {I I1 I2 : gr_I} {q : Nat} (h : gc_OR I) (h0 : 0 ≤ I 61 8) (p1 : ∀ q' j, ¬ (q' = 61 ∧ j = 8) → I1 q' j = I q' j) (e1 : I1 61 8 = I 61 8 + 1) (p2 : ∀ q' j, ¬ (q' = q ∧ j = Int.toNat (I 61 8)) → I2 q' j = I1 q' j) (hq : 61 + 4 + 1 * Int.toNat (I 61 9) = q) (hz : I2 q (Int.toNat (I 61 8)) < I2 48 6) : gc_OR I2 := by
  have hr := h.1
  have a1 : I2 61 8 = I 61 8 + 1 := (p2 61 8 (fun h9 => by exact gz_m 0 (by omega))).trans e1
  have a2 : I2 61 9 = I 61 9 := (p2 61 9 (fun h9 => by exact gz_m 1 (by omega))).trans (p1 61 9 (fun h9 => absurd h9.2 (by decide)))
  have a3 : I2 48 6 = I 48 6 := (p2 48 6 (fun h9 => by exact gz_m 2 (by omega))).trans (p1 48 6 (fun h9 => absurd h9.1 (by decide)))
  refine ⟨by rw [a2]; exact hr, fun i hi => ?_⟩
  rw [a2, hq]
  by_cases e : i = Int.toNat (I 61 8)
  · rw [e]; exact hz
  · rw [p2 q i (fun h9 => e h9.2), p1 q i (fun h9 => by exact gz_m 3 (by omega)), a3]
    exact gc_OR_at h hq (by exact gz_m 4 (by omega))
theorem gc_OR_st {I I' : gr_I} {q k : Nat} (h : gc_OR I) (p : ∀ q' j, ¬ (q' = q ∧ j = k) → I' q' j = I q' j) (hq : q = 65 ∨ q = 66) (hz : I' q k < I 48 6) : gc_OR I' := by
  have hr := h.1
  have a1 : I' 61 8 = I 61 8 := p 61 8 (fun h9 => by exact gz_m 0 (by omega))
  have a2 : I' 61 9 = I 61 9 := p 61 9 (fun h9 => by exact gz_m 1 (by omega))
  have a3 : I' 48 6 = I 48 6 := p 48 6 (fun h9 => by exact gz_m 2 (by omega))
  refine ⟨by rw [a2]; exact hr, fun i hi => ?_⟩
  rw [a2, a3]
  by_cases e : 61 + 4 + 1 * Int.toNat (I 61 9) = q ∧ i = k
  · rw [e.1, e.2]; exact hz
  · rw [p _ i e]; exact h.2 i (by exact gz_m 3 (by omega))
def gc_SR (b : Int) (I : gr_I) : Prop := (0 ≤ I 61 10 ∧ I 61 10 ≤ 1) ∧ ∀ i : Nat, (i : Int) < b → I (61 + 4 + 1 * Int.toNat (I 61 10)) i < I 48 6
theorem gc_SR_nx {b : Int} {I I' : gr_I} {q : Nat} (h : gc_SR b I) (h0 : 0 ≤ b) (p : ∀ q' j, ¬ (q' = q ∧ j = Int.toNat b) → I' q' j = I q' j) (hq : 61 + 4 + 1 * Int.toNat (I 61 10) = q) (hz : I' q (Int.toNat b) < I 48 6) : gc_SR (b + 1) I' := by
  have hr := h.1
  have a2 : I' 61 10 = I 61 10 := p 61 10 (fun h9 => by exact gz_m 0 (by omega))
  have a3 : I' 48 6 = I 48 6 := p 48 6 (fun h9 => by exact gz_m 1 (by omega))
  refine ⟨by rw [a2]; exact hr, fun i hi => ?_⟩
  rw [a2, a3, hq]
  by_cases e : i = Int.toNat b
  · rw [e]; exact hz
  · rw [p q i (fun h9 => e h9.2), ← hq]; exact h.2 i (by exact gz_m 2 (by omega))
theorem gc_SR_w {b b' : Int} {I : gr_I} (h : gc_SR b I) (e : b' ≤ b) : gc_SR b' I := ⟨h.1, fun i hi => h.2 i (by omega)⟩
theorem gc_OR_sw {b : Int} {I I' : gr_I} (h : gc_SR b I) (hb : I' 61 8 ≤ b) (ho : I' 61 9 = I 61 10) (h6 : I' 48 6 = I 48 6) (h1 : ∀ k, I' 65 k = I 65 k) (h2 : ∀ k, I' 66 k = I 66 k) : gc_OR I' := by
  refine ⟨by rw [ho]; exact h.1, fun i hi => ?_⟩
  have h9 := h.2 i (by omega)
  have hr := h.1
  rw [ho, h6]
  rcases (show 61 + 4 + 1 * Int.toNat (I 61 10) = 65 ∨ 61 + 4 + 1 * Int.toNat (I 61 10) = 66 from by omega) with e | e <;> rw [e] at h9 ⊢
  · rw [h1]; exact h9
  · rw [h2]; exact h9
set_option maxHeartbeats 8000000 in
set_option maxRecDepth 100000 in
theorem d_X5_reach {ws0 : List Cond} {tb : String → gz_T} (hws : gc_Ws ws0) (htb : gc_tbs tb) (sh : gz_Sh) (ro : Nat → Nat) (I : gr_I) (J : gr_J) (A : gc_A) (hI : gc_Inv ro I) (t : Nat)  (hb : gc_Base sh ro A) (h_t : gc_isTongue sh ro A t) (G_t : 144 ≤ t)  (x0 : gc_Ls sh ro A t I) (x1 : gc_WV t I) (x2 : gc_FN I) (x3 : I 61 2 = (t : Int)) : ∃ r h', gz_Ev ws0 tb 3 (yX5_reach, cX5_reach, 4, none) [.inr (.inr (some 61))] sh (gc_h sh I J A) r sh h' 0 0 ∧ (∃ (I' : gr_I) (J' : gr_J), h' = gc_h sh I' J' A ∧ gc_Inv ro I' ∧ (∀ q j : Nat, ((q = 61 ∧ j = 8) ∨ q = 64 ∨ q = 65 ∨ q = 66 ∨ q = 67) ∨ I' q j = I q j) ∧ (∀ q j : Nat, (False) ∨ J' q j = J q j) ∧ r = none ∧ (gc_OR I') ∧ (gc_rg 67 I' (I' 48 3) 0 0)) := by
  have FI : ∀ q j : Nat, ((q = 61 ∧ j = 8) ∨ q = 64 ∨ q = 65 ∨ q = 66 ∨ q = 67) ∨ I q j = I q j := fun _ _ => Or.inr rfl
  have FJ : ∀ q j : Nat, (False) ∨ J q j = J q j := fun _ _ => Or.inr rfl
  have A_48_1 : A 48 1 = some 49 := gc_bA hb rfl
  have A_48_2 : A 48 2 = some 50 := gc_bA hb rfl
  have A_48_7 : A 48 7 = some 53 := gc_bA hb rfl
  have A_48_9 : A 48 9 = some 55 := gc_bA hb rfl
  have A_61_1 : A 61 1 = some 48 := gc_bA hb rfl
  have A_61_11 : A 61 11 = some 67 := gc_bA hb rfl
  have A_61_5 : A 61 5 = some 62 := gc_bA hb rfl
  have A_61_7 : A 61 7 = some 64 := gc_bA hb rfl
  have B_48 : 48 < 1000000 := by decide
  have B_49 : 49 < 1000000 := by decide
  have B_50 : 50 < 1000000 := by decide
  have B_53 : 53 < 1000000 := by decide
  have B_55 : 55 < 1000000 := by decide
  have B_61 : 61 < 1000000 := by decide
  have B_62 : 62 < 1000000 := by decide
  have B_64 : 64 < 1000000 := by decide
  have B_65 : 65 < 1000000 := by decide
  have B_66 : 66 < 1000000 := by decide
  have B_67 : 67 < 1000000 := by decide
  have R_48 : ro 48 = 49 := gc_bR hb (by decide) rfl
  have R_49 : ro 49 = 43 := gc_bR hb (by decide) rfl
  have R_50 : ro 50 = 43 := gc_bR hb (by decide) rfl
  have R_53 : ro 53 = 44 := gc_bR hb (by decide) rfl
  have R_55 : ro 55 = 44 := gc_bR hb (by decide) rfl
  have R_61 : ro 61 = 72 := gc_bR hb (by decide) rfl
  have R_62 : ro 62 = 2 := gc_bR hb (by decide) rfl
  have R_64 : ro 64 = 2 := gc_bR hb (by decide) rfl
  have R_65 : ro 65 = 51 := gc_bR hb (by decide) rfl
  have R_66 : ro 66 = 51 := gc_bR hb (by decide) rfl
  have R_67 : ro 67 = 52 := gc_bR hb (by decide) rfl
  have S_48 : sh[48]? = some (false, 0, 22) := gc_bS hb rfl
  have S_49 : sh[49]? = some (true, 1, 18432) := gc_bS hb rfl
  have S_50 : sh[50]? = some (true, 1, 18432) := gc_bS hb rfl
  have S_53 : sh[53]? = some (true, 1, 9000) := gc_bS hb rfl
  have S_55 : sh[55]? = some (true, 1, 36000) := gc_bS hb rfl
  have S_61 : sh[61]? = some (false, 5, 19) := gc_bS hb rfl
  have S_62 : sh[62]? = some (true, 3, 96) := gc_bS hb rfl
  have S_64 : sh[64]? = some (true, 3, 3000) := gc_bS hb rfl
  have S_65 : sh[65]? = some (true, 1, 9000) := gc_bS hb rfl
  have S_66 : sh[66]? = some (true, 1, 9000) := gc_bS hb rfl
  have S_67 : sh[67]? = some (true, 1, 3000) := gc_bS hb rfl
  obtain ⟨S_t, R_t, B_t, A_t_0, h_t_1, A_t_1, h_t_3, A_t_2, S_t_5, R_t_5, B_t_5, A_t_3, S_t_6, R_t_6, B_t_6, A_t_4, h_t_7, A_t_5, S_t_9, R_t_9, B_t_9, A_t_7, S_t_10, R_t_10, B_t_10, A_t_8, h_t_11, A_t_9, S_t_13, R_t_13, B_t_13, A_t_10, S_t_14, R_t_14, B_t_14, A_t_12, S_t_15, R_t_15, B_t_15, A_t_14, S_t_16, R_t_16, B_t_16, A_t_15, h_t_17⟩ := id h_t
  obtain ⟨S_t_1, R_t_1, B_t_1, A_t_1_0, S_t_1_1, R_t_1_1, B_t_1_1, Q0_t_1, Q1_t_1, Q2_t_1⟩ := id h_t_1
  obtain ⟨S_t_3, R_t_3, B_t_3, A_t_3_0, S_t_3_1, R_t_3_1, B_t_3_1, Q0_t_3, Q1_t_3, Q2_t_3⟩ := id h_t_3
  obtain ⟨S_t_7, R_t_7, B_t_7, A_t_7_0, S_t_7_1, R_t_7_1, B_t_7_1, Q0_t_7, Q1_t_7, Q2_t_7⟩ := id h_t_7
  obtain ⟨S_t_11, R_t_11, B_t_11, A_t_11_0, S_t_11_1, R_t_11_1, B_t_11_1, Q0_t_11, Q1_t_11, Q2_t_11⟩ := id h_t_11
  obtain ⟨S_t_17, R_t_17, B_t_17, A_t_17_0, S_20, R_20, B_20, A_t_17_1, S_t_17_1, R_t_17_1, B_t_17_1, A_t_17_2, S_t_17_2, R_t_17_2, B_t_17_2, A_t_17_3, S_t_17_3, R_t_17_3, B_t_17_3, A_t_17_4, S_t_17_4, R_t_17_4, B_t_17_4, A_t_17_5, S_t_17_5, R_t_17_5, B_t_17_5, S_t_17_6, R_t_17_6, B_t_17_6, S_t_17_7, R_t_17_7, B_t_17_7⟩ := id h_t_17
  have hD : gv_D (gc_E5 ws0 tb 2 (yX5_reach, cX5_reach, 4, none) kX5_reach) := gq_of oX5_reach
  refine gc_ev5 (d := 2) (l := kX5_reach) (Po := fun r h' => (∃ (I' : gr_I) (J' : gr_J), h' = gc_h sh I' J' A ∧ gc_Inv ro I' ∧ (∀ q j : Nat, ((q = 61 ∧ j = 8) ∨ q = 64 ∨ q = 65 ∨ q = 66 ∨ q = 67) ∨ I' q j = I q j) ∧ (∀ q j : Nat, (False) ∨ J' q j = J q j) ∧ r = none ∧ (gc_OR I') ∧ (gc_rg 67 I' (I' 48 3) 0 0))) htb rfl (Nat.le_of_ble_eq_true rfl) ?_
  have N_t__64 : ¬ (t = 64) := by exact gz_m 0 (by omega)
  have N_t__65 : ¬ (t = 65) := by exact gz_m 1 (by omega)
  have N_t__66 : ¬ (t = 66) := by exact gz_m 2 (by omega)
  have N_t__67 : ¬ (t = 67) := by exact gz_m 3 (by omega)
  have f1 := (show 0 ≤ I 48 3 ∧ I 48 3 ≤ 3000 from gc_in hI R_48 rfl rfl)
  have f2 := (show 0 ≤ I 48 6 ∧ I 48 6 ≤ 9000 from gc_in hI R_48 rfl rfl)
  have f3 := (show 0 ≤ I 48 10 ∧ I 48 10 ≤ 18431 from gc_in hI R_48 rfl rfl)
  have f4 := (show 0 ≤ I 61 8 ∧ I 61 8 ≤ 9000 from gc_in hI R_61 rfl rfl)
  have f5 := (show 0 ≤ I 61 9 ∧ I 61 9 ≤ 1 from gc_in hI R_61 rfl rfl)
  have f6 := (show (-1) ≤ I 61 2 ∧ I 61 2 ≤ 999999 from gc_in hI R_61 rfl rfl)
  have L2 : ∀ (n9 : Nat) (I7 : gr_I) (J8 : gr_J) (v1_9 : Int), (3001 - v1_9).toNat < n9 → gc_Inv ro I7 → (∀ q j : Nat, ((q = 61 ∧ j = 8) ∨ q = 64 ∨ q = 65 ∨ q = 66 ∨ q = 67) ∨ I7 q j = I q j) → (∀ q j : Nat, (False) ∨ J8 q j = J q j) → ((0 ≤ v1_9 ∧ v1_9 ≤ 3000) ∧ (v1_9 ≤ I7 48 3) ∧ (I7 48 3 = I 48 3) ∧ (I7 48 6 = I 48 6) ∧ (I7 48 10 = I 48 10) ∧ (I7 61 2 = (t : Int))) → (gc_rg 67 I7 v1_9 0 0) → gv_X (gc_E5 ws0 tb 2 (yX5_reach, cX5_reach, 4, none) kX5_reach) (gv_Q cX5_reach none sh (fun r h' => (∃ (I' : gr_I) (J' : gr_J), h' = gc_h sh I' J' A ∧ gc_Inv ro I' ∧ (∀ q j : Nat, ((q = 61 ∧ j = 8) ∨ q = 64 ∨ q = 65 ∨ q = 66 ∨ q = 67) ∨ I' q j = I q j) ∧ (∀ q j : Nat, (False) ∨ J' q j = J q j) ∧ r = none ∧ (gc_OR I') ∧ (gc_rg 67 I' (I' 48 3) 0 0)))) (2, [(0, .inr (.inr (some 61))), (1, .inl v1_9)], [], sh, gc_h sh I7 J8 A) := by
    intro n9
    induction n9 with
    | zero => intro I7 J8 v1_9 hn; exact gz_m 4 (by omega)
    | succ n9 ih2 =>
      intro I7 J8 v1_9 hn hI7 FI7 FJ8 m_9 e0_9
      obtain ⟨hv1_9, e1_9, e2_9, e3_9, e4_9, e5_9⟩ := m_9
      have f10 := (show 0 ≤ I7 48 3 ∧ I7 48 3 ≤ 3000 from gc_in hI7 R_48 rfl rfl)
      have f11 := (show 0 ≤ I7 48 6 ∧ I7 48 6 ≤ 9000 from gc_in hI7 R_48 rfl rfl)
      have f12 := (show 0 ≤ I7 48 10 ∧ I7 48 10 ≤ 18431 from gc_in hI7 R_48 rfl rfl)
      have f13 := (show 0 ≤ I7 61 8 ∧ I7 61 8 ≤ 9000 from gc_in hI7 R_61 rfl rfl)
      have f14 := (show 0 ≤ I7 61 9 ∧ I7 61 9 ≤ 1 from gc_in hI7 R_61 rfl rfl)
      have f15 := (show (-1) ≤ I7 61 2 ∧ I7 61 2 ≤ 999999 from gc_in hI7 R_61 rfl rfl)
      have L51 : ∀ (n9 : Nat) (I16 : gr_I) (J17 : gr_J) (v1_18 : Int) (v2_18 : Int), (3001 - v2_18).toNat < n9 → gc_Inv ro I16 → (∀ q j : Nat, ((q = 61 ∧ j = 8) ∨ q = 64 ∨ q = 65 ∨ q = 66 ∨ q = 67) ∨ I16 q j = I q j) → (∀ q j : Nat, (False) ∨ J17 q j = J q j) → ((0 ≤ v1_18 ∧ v1_18 ≤ 3000) ∧ (0 ≤ v2_18 ∧ v2_18 ≤ 3000) ∧ (v1_18 = I 49 (Int.toNat (I 48 10))) ∧ (v1_18 ≤ v2_18) ∧ (I16 48 3 = I 48 3) ∧ (I16 48 6 = I 48 6) ∧ (I16 48 10 = I 48 10) ∧ (I16 61 2 = (t : Int))) → (gc_rg 67 I16 (I16 48 3) 0 0) → gv_X (gc_E5 ws0 tb 2 (yX5_reach, cX5_reach, 4, none) kX5_reach) (gv_Q cX5_reach none sh (fun r h' => (∃ (I' : gr_I) (J' : gr_J), h' = gc_h sh I' J' A ∧ gc_Inv ro I' ∧ (∀ q j : Nat, ((q = 61 ∧ j = 8) ∨ q = 64 ∨ q = 65 ∨ q = 66 ∨ q = 67) ∨ I' q j = I q j) ∧ (∀ q j : Nat, (False) ∨ J' q j = J q j) ∧ r = none ∧ (gc_OR I') ∧ (gc_rg 67 I' (I' 48 3) 0 0)))) (51, [(0, .inr (.inr (some 61))), (1, .inl v1_18), (2, .inl v2_18)], [], sh, gc_h sh I16 J17 A) := by
        intro n9
        induction n9 with
        | zero => intro I16 J17 v1_18 v2_18 hn; exact gz_m 5 (by omega)
        | succ n9 ih51 =>
          intro I16 J17 v1_18 v2_18 hn hI16 FI16 FJ17 m_18 e0_18
          clear hv1_9 e1_9 e2_9 e3_9 e4_9 e5_9 f10 f11 f12 f13 f14 f15
          obtain ⟨hv1_18, hv2_18, e1_18, e2_18, e3_18, e4_18, e5_18, e6_18⟩ := m_18
          have f19 := (show 0 ≤ I16 48 3 ∧ I16 48 3 ≤ 3000 from gc_in hI16 R_48 rfl rfl)
          have f20 := (show 0 ≤ I16 48 6 ∧ I16 48 6 ≤ 9000 from gc_in hI16 R_48 rfl rfl)
          have f21 := (show 0 ≤ I16 48 10 ∧ I16 48 10 ≤ 18431 from gc_in hI16 R_48 rfl rfl)
          have f22 := (show 0 ≤ I16 61 8 ∧ I16 61 8 ≤ 9000 from gc_in hI16 R_61 rfl rfl)
          have f23 := (show 0 ≤ I16 61 9 ∧ I16 61 9 ≤ 1 from gc_in hI16 R_61 rfl rfl)
          have f24 := (show (-1) ≤ I16 61 2 ∧ I16 61 2 ≤ 999999 from gc_in hI16 R_61 rfl rfl)
          have L100 : ∀ (n9 : Nat) (I25 : gr_I) (J26 : gr_J) (v2_27 : Int), (v2_27 - (-2)).toNat < n9 → gc_Inv ro I25 → (∀ q j : Nat, ((q = 61 ∧ j = 8) ∨ q = 64 ∨ q = 65 ∨ q = 66 ∨ q = 67) ∨ I25 q j = I q j) → (∀ q j : Nat, (False) ∨ J26 q j = J q j) → gc_OR I25 → (((-1) ≤ v2_27 ∧ v2_27 ≤ 8999) ∧ (I25 61 8 + v2_27 + 1 ≤ I25 48 6) ∧ (I25 48 3 = I 48 3) ∧ (I25 48 6 = I 48 6) ∧ (I25 48 10 = I 48 10) ∧ (I25 61 2 = (t : Int))) → (gc_rg 67 I25 (I25 48 3) 0 0) → gv_X (gc_E5 ws0 tb 2 (yX5_reach, cX5_reach, 4, none) kX5_reach) (gv_Q cX5_reach none sh (fun r h' => (∃ (I' : gr_I) (J' : gr_J), h' = gc_h sh I' J' A ∧ gc_Inv ro I' ∧ (∀ q j : Nat, ((q = 61 ∧ j = 8) ∨ q = 64 ∨ q = 65 ∨ q = 66 ∨ q = 67) ∨ I' q j = I q j) ∧ (∀ q j : Nat, (False) ∨ J' q j = J q j) ∧ r = none ∧ (gc_OR I') ∧ (gc_rg 67 I' (I' 48 3) 0 0)))) (100, [(0, .inr (.inr (some 61))), (2, .inl v2_27)], [], sh, gc_h sh I25 J26 A) := by
            intro n9
            induction n9 with
            | zero => intro I25 J26 v2_27 hn; exact gz_m 6 (by omega)
            | succ n9 ih100 =>
              intro I25 J26 v2_27 hn hI25 FI25 FJ26 KOR_I25 m_27 e0_27
              clear hv1_18 hv2_18 e1_18 e2_18 e3_18 e4_18 e5_18 e6_18 f19 f20 f21 f22 f23 f24
              obtain ⟨hv2_27, e1_27, e2_27, e3_27, e4_27, e5_27⟩ := m_27
              have f28 := (show 0 ≤ I25 48 3 ∧ I25 48 3 ≤ 3000 from gc_in hI25 R_48 rfl rfl)
              have f29 := (show 0 ≤ I25 48 6 ∧ I25 48 6 ≤ 9000 from gc_in hI25 R_48 rfl rfl)
              have f30 := (show 0 ≤ I25 48 10 ∧ I25 48 10 ≤ 18431 from gc_in hI25 R_48 rfl rfl)
              have f31 := (show 0 ≤ I25 61 8 ∧ I25 61 8 ≤ 9000 from gc_in hI25 R_61 rfl rfl)
              have f32 := (show 0 ≤ I25 61 9 ∧ I25 61 9 ≤ 1 from gc_in hI25 R_61 rfl rfl)
              have f33 := (show (-1) ≤ I25 61 2 ∧ I25 61 2 ≤ 999999 from gc_in hI25 R_61 rfl rfl)
              have L187 : ∀ (I34 : gr_I) (J35 : gr_J) , gc_Inv ro I34 → (∀ q j : Nat, ((q = 61 ∧ j = 8) ∨ q = 64 ∨ q = 65 ∨ q = 66 ∨ q = 67) ∨ I34 q j = I q j) → (∀ q j : Nat, (False) ∨ J35 q j = J q j) → gc_OR I34 → ((0 ≤ v2_27 ∧ v2_27 ≤ 8999) ∧ (I34 61 8 + v2_27 ≤ I34 48 6) ∧ (v2_27 < I34 48 6) ∧ (0 ≤ v2_27) ∧ (I34 48 3 = I 48 3) ∧ (I34 48 6 = I 48 6) ∧ (I34 48 10 = I 48 10) ∧ (I34 61 2 = (t : Int))) → (gc_rg 67 I34 (I34 48 3) 0 0) → gv_X (gc_E5 ws0 tb 2 (yX5_reach, cX5_reach, 4, none) kX5_reach) (gv_Q cX5_reach none sh (fun r h' => (∃ (I' : gr_I) (J' : gr_J), h' = gc_h sh I' J' A ∧ gc_Inv ro I' ∧ (∀ q j : Nat, ((q = 61 ∧ j = 8) ∨ q = 64 ∨ q = 65 ∨ q = 66 ∨ q = 67) ∨ I' q j = I q j) ∧ (∀ q j : Nat, (False) ∨ J' q j = J q j) ∧ r = none ∧ (gc_OR I') ∧ (gc_rg 67 I' (I' 48 3) 0 0)))) (187, [(0, .inr (.inr (some 61))), (2, .inl v2_27)], [], sh, gc_h sh I34 J35 A) := by
                intro I34 J35 hI34 FI34 FJ35 KOR_I34 m_36 e0_36
                clear hv2_27 e1_27 e2_27 e3_27 e4_27 e5_27 f28 f29 f30 f31 f32 f33
                obtain ⟨hv2_27_36, e1_36, e2_36, e3_36, e4_36, e5_36, e6_36, e7_36⟩ := m_36
                have f37 := (show 0 ≤ I34 48 3 ∧ I34 48 3 ≤ 3000 from gc_in hI34 R_48 rfl rfl)
                have f38 := (show 0 ≤ I34 48 6 ∧ I34 48 6 ≤ 9000 from gc_in hI34 R_48 rfl rfl)
                have f39 := (show 0 ≤ I34 48 10 ∧ I34 48 10 ≤ 18431 from gc_in hI34 R_48 rfl rfl)
                have f40 := (show 0 ≤ I34 61 8 ∧ I34 61 8 ≤ 9000 from gc_in hI34 R_61 rfl rfl)
                have f41 := (show 0 ≤ I34 61 9 ∧ I34 61 9 ≤ 1 from gc_in hI34 R_61 rfl rfl)
                have f42 := (show (-1) ≤ I34 61 2 ∧ I34 61 2 ≤ 999999 from gc_in hI34 R_61 rfl rfl)
                refine gv_run 2 true hD (pc' := 100) (lv' := [(2, .inl (v2_27 + (-1))), (0, .inr (.inr (some 61)))]) (st' := []) (h' := gc_h sh I34 J35 A) (C := ((True ∧ True) ∧ True)) rfl ⟨⟨trivial, trivial⟩, trivial⟩ ?_
                refine gv_pick [1, 0] rfl ?_
                exact ih100 I34 J35 ((v2_27 + (-1))) (by exact gz_m 7 (by omega)) hI34 FI34 FJ35 KOR_I34 (by exact gz_m 8 (by omega)) (gc_rg_m e0_36 (by exact gz_m 9 (by omega)))
              have L153 : ∀ (n9 : Nat) (I43 : gr_I) (J44 : gr_J) (v3_45 : Int), (5 - v3_45).toNat < n9 → gc_Inv ro I43 → (∀ q j : Nat, ((q = 61 ∧ j = 8) ∨ q = 64 ∨ q = 65 ∨ q = 66 ∨ q = 67) ∨ I43 q j = I q j) → (∀ q j : Nat, (False) ∨ J44 q j = J q j) → gc_OR I43 → ((0 ≤ v2_27 ∧ v2_27 ≤ 8999) ∧ (0 ≤ v3_45 ∧ v3_45 ≤ 4) ∧ (I43 61 8 + v2_27 ≤ I43 48 6) ∧ (v2_27 < I43 48 6) ∧ (0 ≤ v2_27) ∧ (I43 48 3 = I 48 3) ∧ (I43 48 6 = I 48 6) ∧ (I43 48 10 = I 48 10) ∧ (I43 61 2 = (t : Int))) → (gc_rg 67 I43 (I43 48 3) 0 0) → gv_X (gc_E5 ws0 tb 2 (yX5_reach, cX5_reach, 4, none) kX5_reach) (gv_Q cX5_reach none sh (fun r h' => (∃ (I' : gr_I) (J' : gr_J), h' = gc_h sh I' J' A ∧ gc_Inv ro I' ∧ (∀ q j : Nat, ((q = 61 ∧ j = 8) ∨ q = 64 ∨ q = 65 ∨ q = 66 ∨ q = 67) ∨ I' q j = I q j) ∧ (∀ q j : Nat, (False) ∨ J' q j = J q j) ∧ r = none ∧ (gc_OR I') ∧ (gc_rg 67 I' (I' 48 3) 0 0)))) (153, [(0, .inr (.inr (some 61))), (2, .inl v2_27), (3, .inl v3_45)], [], sh, gc_h sh I43 J44 A) := by
                intro n9
                induction n9 with
                | zero => intro I43 J44 v3_45 hn; exact gz_m 10 (by omega)
                | succ n9 ih153 =>
                  intro I43 J44 v3_45 hn hI43 FI43 FJ44 KOR_I43 m_45 e0_45
                  clear hv2_27 e1_27 e2_27 e3_27 e4_27 e5_27 f28 f29 f30 f31 f32 f33
                  obtain ⟨hv2_27_45, hv3_45, e1_45, e2_45, e3_45, e4_45, e5_45, e6_45, e7_45⟩ := m_45
                  have f46 := (show 0 ≤ I43 48 3 ∧ I43 48 3 ≤ 3000 from gc_in hI43 R_48 rfl rfl)
                  have f47 := (show 0 ≤ I43 48 6 ∧ I43 48 6 ≤ 9000 from gc_in hI43 R_48 rfl rfl)
                  have f48 := (show 0 ≤ I43 48 10 ∧ I43 48 10 ≤ 18431 from gc_in hI43 R_48 rfl rfl)
                  have f49 := (show 0 ≤ I43 61 8 ∧ I43 61 8 ≤ 9000 from gc_in hI43 R_61 rfl rfl)
                  have f50 := (show 0 ≤ I43 61 9 ∧ I43 61 9 ≤ 1 from gc_in hI43 R_61 rfl rfl)
                  have f51 := (show (-1) ≤ I43 61 2 ∧ I43 61 2 ≤ 999999 from gc_in hI43 R_61 rfl rfl)
                  refine gv_run 3 true hD (pc' := 156) (lv' := [(0, .inr (.inr (some 61))), (2, .inl v2_27), (3, .inl v3_45)]) (st' := [.inl v2_27, .inr (.inr (some 61)), .inl v3_45]) (h' := gc_h sh I43 J44 A) (C := (((True ∧ True) ∧ True) ∧ True)) rfl ⟨⟨⟨trivial, trivial⟩, trivial⟩, trivial⟩ ?_
                  obtain ⟨r52, h52, E52, P52⟩ := d_X5_slotsOf (ws0 := ws0) (tb := tb) hws htb sh ro I43 J44 A hI43  t v2_27 hb  h_t G_t  ⟨by exact gz_m 11 (by omega), by exact gz_m 12 (by omega)⟩ (gc_Ls_fr x0 ((FI43 t 13).resolve_left (by exact gz_m 13 (by omega))) (fun q hL hq d k hd => (FI43 (q + d) k).resolve_left (by have := gc_dj_LT hL h_t; exact gz_m 14 (by omega)))) (gc_WV_fr x1 ((FI43 48 6).resolve_left (fun h => h.elim (fun h => absurd h.2 (by decide)) (fun h => h.elim (fun h => absurd h (by decide)) (fun h => h.elim (fun h => absurd h (by decide)) (fun h => h.elim (fun h => absurd h (by decide)) (fun h => absurd h (by decide))))))) ((FI43 t 13).resolve_left (fun h => h.elim (fun h => absurd h.2 (by decide)) (fun h => h.elim (fun h => absurd h N_t__64) (fun h => h.elim (fun h => absurd h N_t__65) (fun h => h.elim (fun h => absurd h N_t__66) (fun h => absurd h N_t__67)))))) (fun k => (FI43 54 k).resolve_left (fun h => h.elim (fun h => absurd h.1 (by decide)) (fun h => h.elim (fun h => absurd h (by decide)) (fun h => h.elim (fun h => absurd h (by decide)) (fun h => h.elim (fun h => absurd h (by decide)) (fun h => absurd h (by decide)))))))) (by exact gz_m 15 (by omega)) (by exact gz_m 16 (by omega)) 
                  obtain ⟨rfl, ⟨z52, rfl, q52⟩⟩ := P52
                  refine gv_callV hD rfl (As := [.inl v2_27]) (st := [.inl v3_45]) rfl B_61 S_61 rfl (gc_lV5 hws rfl) (Nat.le_of_ble_eq_true rfl) (gz_Ev_mono (d := 1) (by decide) E52) ?_
                  show gv_X _ _ (159, [(0, .inr (.inr (some 61))), (2, .inl v2_27), (3, .inl v3_45)], [.inl z52, .inl v3_45], sh, gc_h sh I43 J44 A)
                  refine gv_icmp_ge (t := 187) hD rfl rfl ⟨⟨by exact gz_m 17 (by omega), by exact gz_m 18 (by omega)⟩, ⟨by exact gz_m 19 (by omega), by exact gz_m 20 (by omega)⟩⟩ (fun c53 => ?_) (fun c53 => ?_)
                  · show gv_X _ _ (187, [(0, .inr (.inr (some 61))), (2, .inl v2_27), (3, .inl v3_45)], [], sh, gc_h sh I43 J44 A)
                    refine gv_pick [0, 1] rfl ?_
                    exact L187 I43 J44 hI43 FI43 FJ44 KOR_I43 (by exact gz_m 21 (by omega)) (gc_rg_m e0_45 (by exact gz_m 22 (by omega)))
                  · show gv_X _ _ (162, [(0, .inr (.inr (some 61))), (2, .inl v2_27), (3, .inl v3_45)], [], sh, gc_h sh I43 J44 A)
                    refine gv_run 1 true hD (pc' := 163) (lv' := [(0, .inr (.inr (some 61))), (2, .inl v2_27), (3, .inl v3_45)]) (st' := [.inr (.inr (some 61))]) (h' := gc_h sh I43 J44 A) (C := (True ∧ True)) rfl ⟨trivial, trivial⟩ ?_
                    refine gv_get hD rfl rfl S_61 ⟨by decide, B_61⟩ (gc_hA S_61 rfl A_61_7) ?_
                    show gv_X _ _ (166, [(0, .inr (.inr (some 61))), (2, .inl v2_27), (3, .inl v3_45)], [.inr (.inr (some 64))], sh, gc_h sh I43 J44 A)
                    refine gv_run 1 true hD (pc' := 167) (lv' := [(0, .inr (.inr (some 61))), (2, .inl v2_27), (3, .inl v3_45)]) (st' := [.inr (.inr (some 61)), .inr (.inr (some 64))]) (h' := gc_h sh I43 J44 A) (C := (True ∧ True)) rfl ⟨trivial, trivial⟩ ?_
                    refine gv_get hD rfl rfl S_61 ⟨by decide, B_61⟩ (gc_hA S_61 rfl A_61_1) ?_
                    show gv_X _ _ (170, [(0, .inr (.inr (some 61))), (2, .inl v2_27), (3, .inl v3_45)], [.inr (.inr (some 48)), .inr (.inr (some 64))], sh, gc_h sh I43 J44 A)
                    refine gv_get hD rfl rfl S_48 ⟨by decide, B_48⟩ (gc_hA S_48 rfl A_48_9) ?_
                    show gv_X _ _ (173, [(0, .inr (.inr (some 61))), (2, .inl v2_27), (3, .inl v3_45)], [.inr (.inr (some 55)), .inr (.inr (some 64))], sh, gc_h sh I43 J44 A)
                    refine gv_run 5 true hD (pc' := 178) (lv' := [(0, .inr (.inr (some 61))), (2, .inl v2_27), (3, .inl v3_45)]) (st' := [.inl ((v2_27 * 4) + v3_45), .inr (.inr (some 55)), .inr (.inr (some 64))]) (h' := gc_h sh I43 J44 A) (C := (((((True ∧ True) ∧ True) ∧ True) ∧ True) ∧ True)) rfl ⟨⟨⟨⟨⟨trivial, trivial⟩, trivial⟩, trivial⟩, trivial⟩, trivial⟩ ?_
                    have f54 := (show 0 ≤ I43 55 (Int.toNat (((v2_27 * 4) + v3_45))) ∧ I43 55 (Int.toNat (((v2_27 * 4) + v3_45))) ≤ 2999 from gc_in hI43 R_55 rfl rfl)
                    refine gv_iald hD rfl S_55 rfl ⟨by decide, B_55⟩ ⟨by exact gz_m 23 (by omega), by exact gz_m 24 (by omega)⟩ (gc_iI S_55 rfl) ?_
                    show gv_X _ _ (179, [(0, .inr (.inr (some 61))), (2, .inl v2_27), (3, .inl v3_45)], [.inl (I43 55 (Int.toNat (((v2_27 * 4) + v3_45)))), .inr (.inr (some 64))], sh, gc_h sh I43 J44 A)
                    refine gv_run 1 true hD (pc' := 180) (lv' := [(0, .inr (.inr (some 61))), (2, .inl v2_27), (3, .inl v3_45)]) (st' := [.inl 1, .inl (I43 55 (Int.toNat (((v2_27 * 4) + v3_45)))), .inr (.inr (some 64))]) (h' := gc_h sh I43 J44 A) (C := (True ∧ True)) rfl ⟨trivial, trivial⟩ ?_
                    have f55 := gw_nar_boolean (x := 1)
                    refine gv_zast hD rfl S_64 ⟨by decide, B_64⟩ ⟨by exact gz_m 25 (by omega), by exact gz_m 26 (by omega)⟩ ?_
                    refine gc_st hI43 S_64 rfl R_64 (lo := 0) (hi := 1) rfl rfl (by exact gz_m 27 (by omega)) (by exact gz_m 28 (by omega)) (fun I56 hI56 q57 p57 => ?_)
                    have FI56 := gc_frs (W := fun q j => (q = 61 ∧ j = 8) ∨ q = 64 ∨ q = 65 ∨ q = 66 ∨ q = 67) FI43 (Or.inr (Or.inl rfl)) p57
                    have t58 := p57 48 3 (fun h => absurd h.1 (by decide))
                    have t59 := p57 48 6 (fun h => absurd h.1 (by decide))
                    have t60 := p57 48 10 (fun h => absurd h.1 (by decide))
                    have t61 := p57 61 8 (fun h => absurd h.1 (by decide))
                    have t62 := p57 61 9 (fun h => absurd h.1 (by decide))
                    have t63 := p57 61 2 (fun h => absurd h.1 (by decide))
                    have KOR_I56 := gc_OR_fr KOR_I43 (p57 61 8 (fun h => absurd h.1 (by decide))) (p57 61 9 (fun h => absurd h.1 (by decide))) (p57 48 6 (fun h => absurd h.1 (by decide))) (fun k => p57 65 k (fun h => absurd h.1 (by decide))) (fun k => p57 66 k (fun h => absurd h.1 (by decide)))
                    show gv_X _ _ (181, [(0, .inr (.inr (some 61))), (2, .inl v2_27), (3, .inl v3_45)], [], sh, gc_h sh I56 J44 A)
                    refine gv_run 2 true hD (pc' := 153) (lv' := [(3, .inl (v3_45 + 1)), (0, .inr (.inr (some 61))), (2, .inl v2_27)]) (st' := []) (h' := gc_h sh I56 J44 A) (C := ((True ∧ True) ∧ True)) rfl ⟨⟨trivial, trivial⟩, trivial⟩ ?_
                    refine gv_pick [1, 2, 0] rfl ?_
                    exact ih153 I56 J44 (v3_45 + 1) (by exact gz_m 29 (by omega)) hI56 FI56 FJ44 KOR_I56 (by exact gz_m 30 (by omega)) (gc_rg_m (gc_rg_fr e0_45 (fun k => p57 67 k (fun h => absurd h.1 (by exact gz_m 31 (by omega))))) (by exact gz_m 32 (by omega)))
              refine gv_run 1 true hD (pc' := 101) (lv' := [(0, .inr (.inr (some 61))), (2, .inl v2_27)]) (st' := [.inl v2_27]) (h' := gc_h sh I25 J26 A) (C := (True ∧ True)) rfl ⟨trivial, trivial⟩ ?_
              refine gv_if_lt (t := 193) hD rfl rfl ⟨by exact gz_m 33 (by omega), by exact gz_m 34 (by omega)⟩ (fun c64 => ?_) (fun c64 => ?_)
              · show gv_X _ _ (193, [(0, .inr (.inr (some 61))), (2, .inl v2_27)], [], sh, gc_h sh I25 J26 A)
                exact gv_vret hD rfl ⟨I25, J26, rfl, hI25, FI25, FJ26, ⟨rfl, KOR_I25, e0_27⟩⟩
              · show gv_X _ _ (104, [(0, .inr (.inr (some 61))), (2, .inl v2_27)], [], sh, gc_h sh I25 J26 A)
                refine gv_run 1 true hD (pc' := 105) (lv' := [(0, .inr (.inr (some 61))), (2, .inl v2_27)]) (st' := [.inr (.inr (some 61))]) (h' := gc_h sh I25 J26 A) (C := (True ∧ True)) rfl ⟨trivial, trivial⟩ ?_
                refine gv_get hD rfl rfl S_61 ⟨by decide, B_61⟩ (gc_hA S_61 rfl A_61_7) ?_
                show gv_X _ _ (108, [(0, .inr (.inr (some 61))), (2, .inl v2_27)], [.inr (.inr (some 64))], sh, gc_h sh I25 J26 A)
                refine gv_run 1 true hD (pc' := 109) (lv' := [(0, .inr (.inr (some 61))), (2, .inl v2_27)]) (st' := [.inr (.inr (some 61)), .inr (.inr (some 64))]) (h' := gc_h sh I25 J26 A) (C := (True ∧ True)) rfl ⟨trivial, trivial⟩ ?_
                refine gv_get hD rfl rfl S_61 ⟨by decide, B_61⟩ (gc_hA S_61 rfl A_61_1) ?_
                show gv_X _ _ (112, [(0, .inr (.inr (some 61))), (2, .inl v2_27)], [.inr (.inr (some 48)), .inr (.inr (some 64))], sh, gc_h sh I25 J26 A)
                refine gv_get hD rfl rfl S_48 ⟨by decide, B_48⟩ (gc_hA S_48 rfl A_48_7) ?_
                show gv_X _ _ (115, [(0, .inr (.inr (some 61))), (2, .inl v2_27)], [.inr (.inr (some 53)), .inr (.inr (some 64))], sh, gc_h sh I25 J26 A)
                refine gv_run 1 true hD (pc' := 116) (lv' := [(0, .inr (.inr (some 61))), (2, .inl v2_27)]) (st' := [.inl v2_27, .inr (.inr (some 53)), .inr (.inr (some 64))]) (h' := gc_h sh I25 J26 A) (C := (True ∧ True)) rfl ⟨trivial, trivial⟩ ?_
                have f65 := (show 0 ≤ I25 53 (Int.toNat v2_27) ∧ I25 53 (Int.toNat v2_27) ≤ 2999 from gc_in hI25 R_53 rfl rfl)
                refine gv_iald hD rfl S_53 rfl ⟨by decide, B_53⟩ ⟨by exact gz_m 35 (by omega), by exact gz_m 36 (by omega)⟩ (gc_iI S_53 rfl) ?_
                show gv_X _ _ (117, [(0, .inr (.inr (some 61))), (2, .inl v2_27)], [.inl (I25 53 (Int.toNat v2_27)), .inr (.inr (some 64))], sh, gc_h sh I25 J26 A)
                have f66 := (show 0 ≤ I25 64 (Int.toNat ((I25 53 (Int.toNat v2_27)))) ∧ I25 64 (Int.toNat ((I25 53 (Int.toNat v2_27)))) ≤ 1 from gc_in hI25 R_64 rfl rfl)
                refine gv_bald hD rfl S_64 (Or.inr rfl) ⟨by decide, B_64⟩ ⟨by exact gz_m 37 (by omega), by exact gz_m 38 (by omega)⟩ (gc_iI S_64 rfl) ?_
                show gv_X _ _ (118, [(0, .inr (.inr (some 61))), (2, .inl v2_27)], [.inl (I25 64 (Int.toNat ((I25 53 (Int.toNat v2_27)))))], sh, gc_h sh I25 J26 A)
                refine gv_if_eq (t := 187) hD rfl rfl ⟨by exact gz_m 39 (by omega), by exact gz_m 40 (by omega)⟩ (fun c67 => ?_) (fun c67 => ?_)
                · show gv_X _ _ (187, [(0, .inr (.inr (some 61))), (2, .inl v2_27)], [], sh, gc_h sh I25 J26 A)
                  exact L187 I25 J26 hI25 FI25 FJ26 KOR_I25 (by exact gz_m 41 (by omega)) (gc_rg_m e0_27 (by exact gz_m 42 (by omega)))
                · show gv_X _ _ (121, [(0, .inr (.inr (some 61))), (2, .inl v2_27)], [], sh, gc_h sh I25 J26 A)
                  refine gv_run 1 true hD (pc' := 122) (lv' := [(0, .inr (.inr (some 61))), (2, .inl v2_27)]) (st' := [.inr (.inr (some 61))]) (h' := gc_h sh I25 J26 A) (C := (True ∧ True)) rfl ⟨trivial, trivial⟩ ?_
                  refine gv_get hD rfl rfl S_61 ⟨by decide, B_61⟩ (gc_hA S_61 rfl A_61_5) ?_
                  show gv_X _ _ (125, [(0, .inr (.inr (some 61))), (2, .inl v2_27)], [.inr (.inr (some 62))], sh, gc_h sh I25 J26 A)
                  refine gv_run 2 true hD (pc' := 127) (lv' := [(0, .inr (.inr (some 61))), (2, .inl v2_27)]) (st' := [.inl v2_27, .inr (.inr (some 61)), .inr (.inr (some 62))]) (h' := gc_h sh I25 J26 A) (C := ((True ∧ True) ∧ True)) rfl ⟨⟨trivial, trivial⟩, trivial⟩ ?_
                  obtain ⟨r68, h68, E68, P68⟩ := d_X5_funOf (ws0 := ws0) (tb := tb) hws htb sh ro I25 J26 A hI25  t v2_27 hb  h_t G_t  ⟨by exact gz_m 43 (by omega), by exact gz_m 44 (by omega)⟩ (gc_Ls_fr x0 ((FI25 t 13).resolve_left (by exact gz_m 45 (by omega))) (fun q hL hq d k hd => (FI25 (q + d) k).resolve_left (by have := gc_dj_LT hL h_t; exact gz_m 46 (by omega)))) (gc_WV_fr x1 ((FI25 48 6).resolve_left (fun h => h.elim (fun h => absurd h.2 (by decide)) (fun h => h.elim (fun h => absurd h (by decide)) (fun h => h.elim (fun h => absurd h (by decide)) (fun h => h.elim (fun h => absurd h (by decide)) (fun h => absurd h (by decide))))))) ((FI25 t 13).resolve_left (fun h => h.elim (fun h => absurd h.2 (by decide)) (fun h => h.elim (fun h => absurd h N_t__64) (fun h => h.elim (fun h => absurd h N_t__65) (fun h => h.elim (fun h => absurd h N_t__66) (fun h => absurd h N_t__67)))))) (fun k => (FI25 54 k).resolve_left (fun h => h.elim (fun h => absurd h.1 (by decide)) (fun h => h.elim (fun h => absurd h (by decide)) (fun h => h.elim (fun h => absurd h (by decide)) (fun h => h.elim (fun h => absurd h (by decide)) (fun h => absurd h (by decide)))))))) (by exact gz_m 47 (by omega)) (by exact gz_m 48 (by omega)) 
                  obtain ⟨rfl, ⟨z68, rfl, q68⟩⟩ := P68
                  refine gv_callV hD rfl (As := [.inl v2_27]) (st := [.inr (.inr (some 62))]) rfl B_61 S_61 rfl (gc_lV5 hws rfl) (Nat.le_of_ble_eq_true rfl) (gz_Ev_mono (d := 2) (by decide) E68) ?_
                  show gv_X _ _ (130, [(0, .inr (.inr (some 61))), (2, .inl v2_27)], [.inl z68, .inr (.inr (some 62))], sh, gc_h sh I25 J26 A)
                  have f69 := (show 0 ≤ I25 62 (Int.toNat z68) ∧ I25 62 (Int.toNat z68) ≤ 1 from gc_in hI25 R_62 rfl rfl)
                  refine gv_bald hD rfl S_62 (Or.inr rfl) ⟨by decide, B_62⟩ ⟨by exact gz_m 49 (by omega), by exact gz_m 50 (by omega)⟩ (gc_iI S_62 rfl) ?_
                  show gv_X _ _ (131, [(0, .inr (.inr (some 61))), (2, .inl v2_27)], [.inl (I25 62 (Int.toNat z68))], sh, gc_h sh I25 J26 A)
                  refine gv_if_ne (t := 187) hD rfl rfl ⟨by exact gz_m 51 (by omega), by exact gz_m 52 (by omega)⟩ (fun c70 => ?_) (fun c70 => ?_)
                  · show gv_X _ _ (187, [(0, .inr (.inr (some 61))), (2, .inl v2_27)], [], sh, gc_h sh I25 J26 A)
                    exact L187 I25 J26 hI25 FI25 FJ26 KOR_I25 (by exact gz_m 53 (by omega)) (gc_rg_m e0_27 (by exact gz_m 54 (by omega)))
                  · show gv_X _ _ (134, [(0, .inr (.inr (some 61))), (2, .inl v2_27)], [], sh, gc_h sh I25 J26 A)
                    refine gv_run 1 true hD (pc' := 135) (lv' := [(0, .inr (.inr (some 61))), (2, .inl v2_27)]) (st' := [.inr (.inr (some 61))]) (h' := gc_h sh I25 J26 A) (C := (True ∧ True)) rfl ⟨trivial, trivial⟩ ?_
                    have f72 := (show 0 ≤ I25 61 9 ∧ I25 61 9 ≤ 1 from gc_in hI25 R_61 rfl rfl)
                    obtain ⟨f71_, hq_f71_, S_f71, R_f71, B_f71, D_f71⟩ := gc_sw (p := 61) (d := 4) (s := 1) (z := I25 61 9) (show 0 ≤ I25 61 9 ∧ I25 61 9 ≤ 1 from gc_in hI25 R_61 rfl rfl) S_65 R_65 B_65 S_66 R_66 B_66
                    refine gv_get hD rfl rfl S_61 ⟨by decide, B_61⟩ (gc_hS (n := 4) S_61 rfl hq_f71_) ?_
                    show gv_X _ _ (138, [(0, .inr (.inr (some 61))), (2, .inl v2_27)], [.inr (.inr (some f71_))], sh, gc_h sh I25 J26 A)
                    refine gv_run 2 true hD (pc' := 140) (lv' := [(0, .inr (.inr (some 61))), (2, .inl v2_27)]) (st' := [.inr (.inr (some 61)), .inr (.inr (some 61)), .inr (.inr (some f71_))]) (h' := gc_h sh I25 J26 A) (C := ((True ∧ True) ∧ True)) rfl ⟨⟨trivial, trivial⟩, trivial⟩ ?_
                    have f73 := (show 0 ≤ I25 61 8 ∧ I25 61 8 ≤ 9000 from gc_in hI25 R_61 rfl rfl)
                    refine gv_get hD rfl rfl S_61 ⟨by decide, B_61⟩ (gc_hI S_61 rfl) ?_
                    show gv_X _ _ (143, [(0, .inr (.inr (some 61))), (2, .inl v2_27)], [.inl (I25 61 8), .inr (.inr (some 61)), .inr (.inr (some f71_))], sh, gc_h sh I25 J26 A)
                    refine gv_run 3 true hD (pc' := 146) (lv' := [(0, .inr (.inr (some 61))), (2, .inl v2_27)]) (st' := [.inl ((I25 61 8) + 1), .inr (.inr (some 61)), .inl (I25 61 8), .inr (.inr (some f71_))]) (h' := gc_h sh I25 J26 A) (C := (((True ∧ True) ∧ True) ∧ True)) rfl ⟨⟨⟨trivial, trivial⟩, trivial⟩, trivial⟩ ?_
                    refine gv_put hD rfl rfl S_61 ⟨by decide, B_61⟩ rfl trivial ?_
                    refine gc_st (k := 8) hI25 S_61 rfl R_61 (lo := 0) (hi := 9000) rfl rfl (by exact gz_m 55 (by omega)) (by exact gz_m 56 (by omega)) (fun I74 hI74 q75 p75 => ?_)
                    have FI74 := gc_frs (W := fun q j => (q = 61 ∧ j = 8) ∨ q = 64 ∨ q = 65 ∨ q = 66 ∨ q = 67) FI25 (Or.inl ⟨rfl, rfl⟩) p75
                    have t76 := p75 48 3 (fun h => absurd h.2 (by decide))
                    have t77 := p75 48 6 (fun h => absurd h.2 (by decide))
                    have t78 := p75 48 10 (fun h => absurd h.2 (by decide))
                    have t79 := p75 61 9 (fun h => absurd h.2 (by decide))
                    have t80 := p75 61 2 (fun h => absurd h.2 (by decide))
                    have f81 := (show 0 ≤ I74 61 8 ∧ I74 61 8 ≤ 9000 from gc_in hI74 R_61 rfl rfl)
                    show gv_X _ _ (149, [(0, .inr (.inr (some 61))), (2, .inl v2_27)], [.inl (I25 61 8), .inr (.inr (some f71_))], sh, gc_h sh I74 J26 A)
                    refine gv_run 1 true hD (pc' := 150) (lv' := [(0, .inr (.inr (some 61))), (2, .inl v2_27)]) (st' := [.inl v2_27, .inl (I25 61 8), .inr (.inr (some f71_))]) (h' := gc_h sh I74 J26 A) (C := (True ∧ True)) rfl ⟨trivial, trivial⟩ ?_
                    refine gv_iast hD rfl S_f71 ⟨by decide, B_f71⟩ ⟨by exact gz_m 57 (by omega), by exact gz_m 58 (by omega)⟩ ?_
                    refine gc_st hI74 S_f71 rfl R_f71 (lo := 0) (hi := 8999) rfl rfl (by exact gz_m 59 (by omega)) (by exact gz_m 60 (by omega)) (fun I82 hI82 q83 p83 => ?_)
                    have FI82 := gc_frs (W := fun q j => (q = 61 ∧ j = 8) ∨ q = 64 ∨ q = 65 ∨ q = 66 ∨ q = 67) FI74 (show (f71_ = 61 ∧ (Int.toNat (I25 61 8)) = 8) ∨ f71_ = 64 ∨ f71_ = 65 ∨ f71_ = 66 ∨ f71_ = 67 from by exact gz_m 61 (by omega)) p83
                    have t84 := p83 48 3 (fun h => absurd h.1 (by exact gz_m 62 (by omega)))
                    have t85 := p83 48 6 (fun h => absurd h.1 (by exact gz_m 63 (by omega)))
                    have t86 := p83 48 10 (fun h => absurd h.1 (by exact gz_m 64 (by omega)))
                    have t87 := p83 61 8 (fun h => absurd h.1 (by exact gz_m 65 (by omega)))
                    have t88 := p83 61 9 (fun h => absurd h.1 (by exact gz_m 66 (by omega)))
                    have t89 := p83 61 2 (fun h => absurd h.1 (by exact gz_m 67 (by omega)))
                    have KOR_I82 : gc_OR I82 := gc_OR_push KOR_I25 (by exact gz_m 68 (by omega)) p75 q75 p83 hq_f71_ (by exact gz_m 69 (by omega))
                    show gv_X _ _ (151, [(0, .inr (.inr (some 61))), (2, .inl v2_27)], [], sh, gc_h sh I82 J26 A)
                    refine gv_run 2 true hD (pc' := 153) (lv' := [(3, .inl 0), (0, .inr (.inr (some 61))), (2, .inl v2_27)]) (st' := []) (h' := gc_h sh I82 J26 A) (C := ((True ∧ True) ∧ True)) rfl ⟨⟨trivial, trivial⟩, trivial⟩ ?_
                    refine gv_pick [1, 2, 0] rfl ?_
                    exact L153 _ I82 J26 0 (Nat.lt_succ_self _) hI82 FI82 FJ26 KOR_I82 (by exact gz_m 70 (by omega)) (gc_rg_m (gc_rg_fr (gc_rg_fr e0_27 (fun k => p75 67 k (fun h => absurd h.1 (by exact gz_m 71 (by omega))))) (fun k => p83 67 k (fun h => absurd h.1 (by exact gz_m 72 (by omega))))) (by exact gz_m 73 (by omega)))
          have t90 := x2 (Int.toNat (I 48 10)) (by exact gz_m 74 (by omega))
          refine gv_run 3 true hD (pc' := 54) (lv' := [(0, .inr (.inr (some 61))), (1, .inl v1_18), (2, .inl v2_18)]) (st' := [.inr (.inr (some 61)), .inl v1_18, .inl v2_18]) (h' := gc_h sh I16 J17 A) (C := (((True ∧ True) ∧ True) ∧ True)) rfl ⟨⟨⟨trivial, trivial⟩, trivial⟩, trivial⟩ ?_
          refine gv_get hD rfl rfl S_61 ⟨by decide, B_61⟩ (gc_hA S_61 rfl A_61_1) ?_
          show gv_X _ _ (57, [(0, .inr (.inr (some 61))), (1, .inl v1_18), (2, .inl v2_18)], [.inr (.inr (some 48)), .inl v1_18, .inl v2_18], sh, gc_h sh I16 J17 A)
          refine gv_get hD rfl rfl S_48 ⟨by decide, B_48⟩ (gc_hA S_48 rfl A_48_2) ?_
          show gv_X _ _ (60, [(0, .inr (.inr (some 61))), (1, .inl v1_18), (2, .inl v2_18)], [.inr (.inr (some 50)), .inl v1_18, .inl v2_18], sh, gc_h sh I16 J17 A)
          refine gv_run 1 true hD (pc' := 61) (lv' := [(0, .inr (.inr (some 61))), (1, .inl v1_18), (2, .inl v2_18)]) (st' := [.inr (.inr (some 61)), .inr (.inr (some 50)), .inl v1_18, .inl v2_18]) (h' := gc_h sh I16 J17 A) (C := (True ∧ True)) rfl ⟨trivial, trivial⟩ ?_
          refine gv_get hD rfl rfl S_61 ⟨by decide, B_61⟩ (gc_hA S_61 rfl A_61_1) ?_
          show gv_X _ _ (64, [(0, .inr (.inr (some 61))), (1, .inl v1_18), (2, .inl v2_18)], [.inr (.inr (some 48)), .inr (.inr (some 50)), .inl v1_18, .inl v2_18], sh, gc_h sh I16 J17 A)
          have f91 := (show 0 ≤ I16 48 10 ∧ I16 48 10 ≤ 18431 from gc_in hI16 R_48 rfl rfl)
          refine gv_get hD rfl rfl S_48 ⟨by decide, B_48⟩ (gc_hI S_48 rfl) ?_
          show gv_X _ _ (67, [(0, .inr (.inr (some 61))), (1, .inl v1_18), (2, .inl v2_18)], [.inl (I16 48 10), .inr (.inr (some 50)), .inl v1_18, .inl v2_18], sh, gc_h sh I16 J17 A)
          have t92 := (show I16 50 (Int.toNat (I16 48 10)) = I 50 (Int.toNat (I 48 10)) from by rw [show I16 48 10 = I 48 10 from by exact gz_m 75 (by omega)]; exact (FI16 50 _).resolve_left (fun h => h.elim (fun h => absurd h.1 (by decide)) (fun h => h.elim (fun h => absurd h (by decide)) (fun h => h.elim (fun h => absurd h (by decide)) (fun h => h.elim (fun h => absurd h (by decide)) (fun h => absurd h (by decide)))))))
          have f93 := (show 0 ≤ I16 50 (Int.toNat (I16 48 10)) ∧ I16 50 (Int.toNat (I16 48 10)) ≤ 3000 from gc_in hI16 R_50 rfl rfl)
          refine gv_iald hD rfl S_50 rfl ⟨by decide, B_50⟩ ⟨by exact gz_m 76 (by omega), by exact gz_m 77 (by omega)⟩ (gc_iI S_50 rfl) ?_
          show gv_X _ _ (68, [(0, .inr (.inr (some 61))), (1, .inl v1_18), (2, .inl v2_18)], [.inl (I16 50 (Int.toNat (I16 48 10))), .inl v1_18, .inl v2_18], sh, gc_h sh I16 J17 A)
          refine gv_run 1 true hD (pc' := 69) (lv' := [(0, .inr (.inr (some 61))), (1, .inl v1_18), (2, .inl v2_18)]) (st' := [.inl (v1_18 + (I16 50 (Int.toNat (I16 48 10)))), .inl v2_18]) (h' := gc_h sh I16 J17 A) (C := (True ∧ True)) rfl ⟨trivial, trivial⟩ ?_
          refine gv_icmp_ge (t := 85) hD rfl rfl ⟨⟨by exact gz_m 78 (by omega), by exact gz_m 79 (by omega)⟩, ⟨by exact gz_m 80 (by omega), by exact gz_m 81 (by omega)⟩⟩ (fun c94 => ?_) (fun c94 => ?_)
          · show gv_X _ _ (85, [(0, .inr (.inr (some 61))), (1, .inl v1_18), (2, .inl v2_18)], [], sh, gc_h sh I16 J17 A)
            refine gv_run 2 true hD (pc' := 87) (lv' := [(0, .inr (.inr (some 61))), (1, .inl v1_18), (2, .inl v2_18)]) (st' := [.inl 0, .inr (.inr (some 61))]) (h' := gc_h sh I16 J17 A) (C := ((True ∧ True) ∧ True)) rfl ⟨⟨trivial, trivial⟩, trivial⟩ ?_
            refine gv_put hD rfl rfl S_61 ⟨by decide, B_61⟩ rfl trivial ?_
            refine gc_st (k := 8) hI16 S_61 rfl R_61 (lo := 0) (hi := 9000) rfl rfl (by exact gz_m 82 (by omega)) (by exact gz_m 83 (by omega)) (fun I95 hI95 q96 p96 => ?_)
            have FI95 := gc_frs (W := fun q j => (q = 61 ∧ j = 8) ∨ q = 64 ∨ q = 65 ∨ q = 66 ∨ q = 67) FI16 (Or.inl ⟨rfl, rfl⟩) p96
            have t97 := p96 48 3 (fun h => absurd h.2 (by decide))
            have t98 := p96 48 6 (fun h => absurd h.2 (by decide))
            have t99 := p96 48 10 (fun h => absurd h.2 (by decide))
            have t100 := p96 61 9 (fun h => absurd h.2 (by decide))
            have t101 := p96 61 2 (fun h => absurd h.2 (by decide))
            have f102 := (show 0 ≤ I95 61 8 ∧ I95 61 8 ≤ 9000 from gc_in hI95 R_61 rfl rfl)
            have KOR_I95 : gc_OR I95 := gc_OR_0 (by exact gz_m 84 (by omega)) (by exact gz_m 85 (by omega))
            show gv_X _ _ (90, [(0, .inr (.inr (some 61))), (1, .inl v1_18), (2, .inl v2_18)], [], sh, gc_h sh I95 J17 A)
            refine gv_run 1 true hD (pc' := 91) (lv' := [(0, .inr (.inr (some 61))), (1, .inl v1_18), (2, .inl v2_18)]) (st' := [.inr (.inr (some 61))]) (h' := gc_h sh I95 J17 A) (C := (True ∧ True)) rfl ⟨trivial, trivial⟩ ?_
            refine gv_get hD rfl rfl S_61 ⟨by decide, B_61⟩ (gc_hA S_61 rfl A_61_1) ?_
            show gv_X _ _ (94, [(0, .inr (.inr (some 61))), (1, .inl v1_18), (2, .inl v2_18)], [.inr (.inr (some 48))], sh, gc_h sh I95 J17 A)
            have f103 := (show 0 ≤ I95 48 6 ∧ I95 48 6 ≤ 9000 from gc_in hI95 R_48 rfl rfl)
            refine gv_get hD rfl rfl S_48 ⟨by decide, B_48⟩ (gc_hI S_48 rfl) ?_
            show gv_X _ _ (97, [(0, .inr (.inr (some 61))), (1, .inl v1_18), (2, .inl v2_18)], [.inl (I95 48 6)], sh, gc_h sh I95 J17 A)
            refine gv_run 3 true hD (pc' := 100) (lv' := [(2, .inl ((I95 48 6) - 1)), (0, .inr (.inr (some 61))), (1, .inl v1_18)]) (st' := []) (h' := gc_h sh I95 J17 A) (C := (((True ∧ True) ∧ True) ∧ True)) rfl ⟨⟨⟨trivial, trivial⟩, trivial⟩, trivial⟩ ?_
            refine gv_pick [1, 0] rfl ?_
            exact L100 _ I95 J17 (((I95 48 6) - 1)) (Nat.lt_succ_self _) hI95 FI95 FJ17 KOR_I95 (by exact gz_m 86 (by omega)) (gc_rg_m (gc_rg_fr e0_18 (fun k => p96 67 k (fun h => absurd h.1 (by exact gz_m 87 (by omega))))) (by exact gz_m 88 (by omega)))
          · show gv_X _ _ (72, [(0, .inr (.inr (some 61))), (1, .inl v1_18), (2, .inl v2_18)], [], sh, gc_h sh I16 J17 A)
            refine gv_run 1 true hD (pc' := 73) (lv' := [(0, .inr (.inr (some 61))), (1, .inl v1_18), (2, .inl v2_18)]) (st' := [.inr (.inr (some 61))]) (h' := gc_h sh I16 J17 A) (C := (True ∧ True)) rfl ⟨trivial, trivial⟩ ?_
            refine gv_get hD rfl rfl S_61 ⟨by decide, B_61⟩ (gc_hA S_61 rfl A_61_7) ?_
            show gv_X _ _ (76, [(0, .inr (.inr (some 61))), (1, .inl v1_18), (2, .inl v2_18)], [.inr (.inr (some 64))], sh, gc_h sh I16 J17 A)
            refine gv_run 2 true hD (pc' := 78) (lv' := [(0, .inr (.inr (some 61))), (1, .inl v1_18), (2, .inl v2_18)]) (st' := [.inl 1, .inl v2_18, .inr (.inr (some 64))]) (h' := gc_h sh I16 J17 A) (C := ((True ∧ True) ∧ True)) rfl ⟨⟨trivial, trivial⟩, trivial⟩ ?_
            have f104 := gw_nar_boolean (x := 1)
            refine gv_zast hD rfl S_64 ⟨by decide, B_64⟩ ⟨by exact gz_m 89 (by omega), by exact gz_m 90 (by omega)⟩ ?_
            refine gc_st hI16 S_64 rfl R_64 (lo := 0) (hi := 1) rfl rfl (by exact gz_m 91 (by omega)) (by exact gz_m 92 (by omega)) (fun I105 hI105 q106 p106 => ?_)
            have FI105 := gc_frs (W := fun q j => (q = 61 ∧ j = 8) ∨ q = 64 ∨ q = 65 ∨ q = 66 ∨ q = 67) FI16 (Or.inr (Or.inl rfl)) p106
            have t107 := p106 48 3 (fun h => absurd h.1 (by decide))
            have t108 := p106 48 6 (fun h => absurd h.1 (by decide))
            have t109 := p106 48 10 (fun h => absurd h.1 (by decide))
            have t110 := p106 61 8 (fun h => absurd h.1 (by decide))
            have t111 := p106 61 9 (fun h => absurd h.1 (by decide))
            have t112 := p106 61 2 (fun h => absurd h.1 (by decide))
            show gv_X _ _ (79, [(0, .inr (.inr (some 61))), (1, .inl v1_18), (2, .inl v2_18)], [], sh, gc_h sh I105 J17 A)
            refine gv_run 2 true hD (pc' := 51) (lv' := [(2, .inl (v2_18 + 1)), (0, .inr (.inr (some 61))), (1, .inl v1_18)]) (st' := []) (h' := gc_h sh I105 J17 A) (C := ((True ∧ True) ∧ True)) rfl ⟨⟨trivial, trivial⟩, trivial⟩ ?_
            refine gv_pick [1, 2, 0] rfl ?_
            exact ih51 I105 J17 v1_18 (v2_18 + 1) (by exact gz_m 93 (by omega)) hI105 FI105 FJ17 (by exact gz_m 94 (by omega)) (gc_rg_m (gc_rg_fr e0_18 (fun k => p106 67 k (fun h => absurd h.1 (by exact gz_m 95 (by omega))))) (by exact gz_m 96 (by omega)))
      refine gv_run 2 true hD (pc' := 4) (lv' := [(0, .inr (.inr (some 61))), (1, .inl v1_9)]) (st' := [.inr (.inr (some 61)), .inl v1_9]) (h' := gc_h sh I7 J8 A) (C := ((True ∧ True) ∧ True)) rfl ⟨⟨trivial, trivial⟩, trivial⟩ ?_
      refine gv_get hD rfl rfl S_61 ⟨by decide, B_61⟩ (gc_hA S_61 rfl A_61_1) ?_
      show gv_X _ _ (7, [(0, .inr (.inr (some 61))), (1, .inl v1_9)], [.inr (.inr (some 48)), .inl v1_9], sh, gc_h sh I7 J8 A)
      have f113 := (show 0 ≤ I7 48 3 ∧ I7 48 3 ≤ 3000 from gc_in hI7 R_48 rfl rfl)
      refine gv_get hD rfl rfl S_48 ⟨by decide, B_48⟩ (gc_hI S_48 rfl) ?_
      show gv_X _ _ (10, [(0, .inr (.inr (some 61))), (1, .inl v1_9)], [.inl (I7 48 3), .inl v1_9], sh, gc_h sh I7 J8 A)
      refine gv_icmp_ge (t := 33) hD rfl rfl ⟨⟨by exact gz_m 97 (by omega), by exact gz_m 98 (by omega)⟩, ⟨by exact gz_m 99 (by omega), by exact gz_m 100 (by omega)⟩⟩ (fun c114 => ?_) (fun c114 => ?_)
      · show gv_X _ _ (33, [(0, .inr (.inr (some 61))), (1, .inl v1_9)], [], sh, gc_h sh I7 J8 A)
        refine gv_run 1 true hD (pc' := 34) (lv' := [(0, .inr (.inr (some 61))), (1, .inl v1_9)]) (st' := [.inr (.inr (some 61))]) (h' := gc_h sh I7 J8 A) (C := (True ∧ True)) rfl ⟨trivial, trivial⟩ ?_
        refine gv_get hD rfl rfl S_61 ⟨by decide, B_61⟩ (gc_hA S_61 rfl A_61_1) ?_
        show gv_X _ _ (37, [(0, .inr (.inr (some 61))), (1, .inl v1_9)], [.inr (.inr (some 48))], sh, gc_h sh I7 J8 A)
        refine gv_get hD rfl rfl S_48 ⟨by decide, B_48⟩ (gc_hA S_48 rfl A_48_1) ?_
        show gv_X _ _ (40, [(0, .inr (.inr (some 61))), (1, .inl v1_9)], [.inr (.inr (some 49))], sh, gc_h sh I7 J8 A)
        refine gv_run 1 true hD (pc' := 41) (lv' := [(0, .inr (.inr (some 61))), (1, .inl v1_9)]) (st' := [.inr (.inr (some 61)), .inr (.inr (some 49))]) (h' := gc_h sh I7 J8 A) (C := (True ∧ True)) rfl ⟨trivial, trivial⟩ ?_
        refine gv_get hD rfl rfl S_61 ⟨by decide, B_61⟩ (gc_hA S_61 rfl A_61_1) ?_
        show gv_X _ _ (44, [(0, .inr (.inr (some 61))), (1, .inl v1_9)], [.inr (.inr (some 48)), .inr (.inr (some 49))], sh, gc_h sh I7 J8 A)
        have f115 := (show 0 ≤ I7 48 10 ∧ I7 48 10 ≤ 18431 from gc_in hI7 R_48 rfl rfl)
        refine gv_get hD rfl rfl S_48 ⟨by decide, B_48⟩ (gc_hI S_48 rfl) ?_
        show gv_X _ _ (47, [(0, .inr (.inr (some 61))), (1, .inl v1_9)], [.inl (I7 48 10), .inr (.inr (some 49))], sh, gc_h sh I7 J8 A)
        have t116 := (show I7 49 (Int.toNat (I7 48 10)) = I 49 (Int.toNat (I 48 10)) from by rw [show I7 48 10 = I 48 10 from by exact gz_m 101 (by omega)]; exact (FI7 49 _).resolve_left (fun h => h.elim (fun h => absurd h.1 (by decide)) (fun h => h.elim (fun h => absurd h (by decide)) (fun h => h.elim (fun h => absurd h (by decide)) (fun h => h.elim (fun h => absurd h (by decide)) (fun h => absurd h (by decide)))))))
        have f117 := (show 0 ≤ I7 49 (Int.toNat (I7 48 10)) ∧ I7 49 (Int.toNat (I7 48 10)) ≤ 3000 from gc_in hI7 R_49 rfl rfl)
        refine gv_iald hD rfl S_49 rfl ⟨by decide, B_49⟩ ⟨by exact gz_m 102 (by omega), by exact gz_m 103 (by omega)⟩ (gc_iI S_49 rfl) ?_
        show gv_X _ _ (48, [(0, .inr (.inr (some 61))), (1, .inl v1_9)], [.inl (I7 49 (Int.toNat (I7 48 10)))], sh, gc_h sh I7 J8 A)
        refine gv_run 3 true hD (pc' := 51) (lv' := [(2, .inl (I7 49 (Int.toNat (I7 48 10)))), (1, .inl (I7 49 (Int.toNat (I7 48 10)))), (0, .inr (.inr (some 61)))]) (st' := []) (h' := gc_h sh I7 J8 A) (C := (((True ∧ True) ∧ True) ∧ True)) rfl ⟨⟨⟨trivial, trivial⟩, trivial⟩, trivial⟩ ?_
        refine gv_pick [2, 1, 0] rfl ?_
        exact L51 _ I7 J8 ((I7 49 (Int.toNat (I7 48 10)))) ((I7 49 (Int.toNat (I7 48 10)))) (Nat.lt_succ_self _) hI7 FI7 FJ8 (by exact gz_m 104 (by omega)) (gc_rg_m e0_9 (by exact gz_m 105 (by omega)))
      · show gv_X _ _ (13, [(0, .inr (.inr (some 61))), (1, .inl v1_9)], [], sh, gc_h sh I7 J8 A)
        refine gv_run 1 true hD (pc' := 14) (lv' := [(0, .inr (.inr (some 61))), (1, .inl v1_9)]) (st' := [.inr (.inr (some 61))]) (h' := gc_h sh I7 J8 A) (C := (True ∧ True)) rfl ⟨trivial, trivial⟩ ?_
        refine gv_get hD rfl rfl S_61 ⟨by decide, B_61⟩ (gc_hA S_61 rfl A_61_7) ?_
        show gv_X _ _ (17, [(0, .inr (.inr (some 61))), (1, .inl v1_9)], [.inr (.inr (some 64))], sh, gc_h sh I7 J8 A)
        refine gv_run 2 true hD (pc' := 19) (lv' := [(0, .inr (.inr (some 61))), (1, .inl v1_9)]) (st' := [.inl 0, .inl v1_9, .inr (.inr (some 64))]) (h' := gc_h sh I7 J8 A) (C := ((True ∧ True) ∧ True)) rfl ⟨⟨trivial, trivial⟩, trivial⟩ ?_
        have f118 := gw_nar_boolean (x := 0)
        refine gv_zast hD rfl S_64 ⟨by decide, B_64⟩ ⟨by exact gz_m 106 (by omega), by exact gz_m 107 (by omega)⟩ ?_
        refine gc_st hI7 S_64 rfl R_64 (lo := 0) (hi := 1) rfl rfl (by exact gz_m 108 (by omega)) (by exact gz_m 109 (by omega)) (fun I119 hI119 q120 p120 => ?_)
        have FI119 := gc_frs (W := fun q j => (q = 61 ∧ j = 8) ∨ q = 64 ∨ q = 65 ∨ q = 66 ∨ q = 67) FI7 (Or.inr (Or.inl rfl)) p120
        have t121 := p120 48 3 (fun h => absurd h.1 (by decide))
        have t122 := p120 48 6 (fun h => absurd h.1 (by decide))
        have t123 := p120 48 10 (fun h => absurd h.1 (by decide))
        have t124 := p120 61 8 (fun h => absurd h.1 (by decide))
        have t125 := p120 61 9 (fun h => absurd h.1 (by decide))
        have t126 := p120 61 2 (fun h => absurd h.1 (by decide))
        show gv_X _ _ (20, [(0, .inr (.inr (some 61))), (1, .inl v1_9)], [], sh, gc_h sh I119 J8 A)
        refine gv_run 1 true hD (pc' := 21) (lv' := [(0, .inr (.inr (some 61))), (1, .inl v1_9)]) (st' := [.inr (.inr (some 61))]) (h' := gc_h sh I119 J8 A) (C := (True ∧ True)) rfl ⟨trivial, trivial⟩ ?_
        refine gv_get hD rfl rfl S_61 ⟨by decide, B_61⟩ (gc_hA S_61 rfl A_61_11) ?_
        show gv_X _ _ (24, [(0, .inr (.inr (some 61))), (1, .inl v1_9)], [.inr (.inr (some 67))], sh, gc_h sh I119 J8 A)
        refine gv_run 2 true hD (pc' := 26) (lv' := [(0, .inr (.inr (some 61))), (1, .inl v1_9)]) (st' := [.inl 0, .inl v1_9, .inr (.inr (some 67))]) (h' := gc_h sh I119 J8 A) (C := ((True ∧ True) ∧ True)) rfl ⟨⟨trivial, trivial⟩, trivial⟩ ?_
        refine gv_iast hD rfl S_67 ⟨by decide, B_67⟩ ⟨by exact gz_m 110 (by omega), by exact gz_m 111 (by omega)⟩ ?_
        refine gc_st hI119 S_67 rfl R_67 (lo := 0) (hi := 16) rfl rfl (by exact gz_m 112 (by omega)) (by exact gz_m 113 (by omega)) (fun I127 hI127 q128 p128 => ?_)
        have FI127 := gc_frs (W := fun q j => (q = 61 ∧ j = 8) ∨ q = 64 ∨ q = 65 ∨ q = 66 ∨ q = 67) FI119 (Or.inr (Or.inr (Or.inr (Or.inr rfl)))) p128
        have t129 := p128 48 3 (fun h => absurd h.1 (by decide))
        have t130 := p128 48 6 (fun h => absurd h.1 (by decide))
        have t131 := p128 48 10 (fun h => absurd h.1 (by decide))
        have t132 := p128 61 8 (fun h => absurd h.1 (by decide))
        have t133 := p128 61 9 (fun h => absurd h.1 (by decide))
        have t134 := p128 61 2 (fun h => absurd h.1 (by decide))
        show gv_X _ _ (27, [(0, .inr (.inr (some 61))), (1, .inl v1_9)], [], sh, gc_h sh I127 J8 A)
        refine gv_run 2 true hD (pc' := 2) (lv' := [(1, .inl (v1_9 + 1)), (0, .inr (.inr (some 61)))]) (st' := []) (h' := gc_h sh I127 J8 A) (C := ((True ∧ True) ∧ True)) rfl ⟨⟨trivial, trivial⟩, trivial⟩ ?_
        refine gv_pick [1, 0] rfl ?_
        exact ih2 I127 J8 (v1_9 + 1) (by exact gz_m 114 (by omega)) hI127 FI127 FJ8 (by exact gz_m 115 (by omega)) (gc_rg_push (gc_rg_fr e0_9 (fun k => p120 67 k (fun h => absurd h.1 (by exact gz_m 116 (by omega))))) (by exact gz_m 117 (by omega)) p128 (by exact gz_m 118 (by omega)))
  refine gv_run 2 true hD (pc' := 2) (lv' := [(1, .inl 0), (0, .inr (.inr (some 61)))]) (st' := []) (h' := gc_h sh I J A) (C := ((True ∧ True) ∧ True)) rfl ⟨⟨trivial, trivial⟩, trivial⟩ ?_
  refine gv_pick [1, 0] rfl ?_
  exact L2 _ I J 0 (Nat.lt_succ_self _) hI FI FJ (by exact gz_m 119 (by omega)) (fun k a b => by exact gz_m 120 (by omega))
set_option maxHeartbeats 8000000 in
set_option maxRecDepth 100000 in
theorem d_X5_compare {ws0 : List Cond} {tb : String → gz_T} (hws : gc_Ws ws0) (htb : gc_tbs tb) (sh : gz_Sh) (ro : Nat → Nat) (I : gr_I) (J : gr_J) (A : gc_A) (hI : gc_Inv ro I) (t : Nat) (a1 : Int) (a2 : Int) (hb : gc_Base sh ro A) (h_t : gc_isTongue sh ro A t) (G_t : 144 ≤ t) (ha1 : 0 ≤ a1 ∧ a1 ≤ 8999) (ha2 : 0 ≤ a2 ∧ a2 ≤ 8999) (x0 : gc_Ls sh ro A t I) (x1 : gc_WV t I) (x2 : a1 < I 48 6) (x3 : a2 < I 48 6) (x4 : I 61 2 = (t : Int)) : ∃ r h', gz_Ev ws0 tb 2 (yX5_compare, cX5_compare, 7, (some .int)) [.inr (.inr (some 61)), .inl a1, .inl a2] sh (gc_h sh I J A) r sh h' 0 0 ∧ (h' = gc_h sh I J A ∧ (∃ z : Int, r = some (.inl z) ∧ (-16777215) ≤ z ∧ z ≤ 16777215)) := by
  have A_48_7 : A 48 7 = some 53 := gc_bA hb rfl
  have A_48_8 : A 48 8 = some 54 := gc_bA hb rfl
  have A_61_1 : A 61 1 = some 48 := gc_bA hb rfl
  have B_48 : 48 < 1000000 := by decide
  have B_53 : 53 < 1000000 := by decide
  have B_54 : 54 < 1000000 := by decide
  have B_61 : 61 < 1000000 := by decide
  have R_53 : ro 53 = 44 := gc_bR hb (by decide) rfl
  have R_54 : ro 54 = 46 := gc_bR hb (by decide) rfl
  have R_61 : ro 61 = 72 := gc_bR hb (by decide) rfl
  have S_48 : sh[48]? = some (false, 0, 22) := gc_bS hb rfl
  have S_53 : sh[53]? = some (true, 1, 9000) := gc_bS hb rfl
  have S_54 : sh[54]? = some (true, 1, 9000) := gc_bS hb rfl
  have S_61 : sh[61]? = some (false, 5, 19) := gc_bS hb rfl
  obtain ⟨S_t, R_t, B_t, A_t_0, h_t_1, A_t_1, h_t_3, A_t_2, S_t_5, R_t_5, B_t_5, A_t_3, S_t_6, R_t_6, B_t_6, A_t_4, h_t_7, A_t_5, S_t_9, R_t_9, B_t_9, A_t_7, S_t_10, R_t_10, B_t_10, A_t_8, h_t_11, A_t_9, S_t_13, R_t_13, B_t_13, A_t_10, S_t_14, R_t_14, B_t_14, A_t_12, S_t_15, R_t_15, B_t_15, A_t_14, S_t_16, R_t_16, B_t_16, A_t_15, h_t_17⟩ := id h_t
  obtain ⟨S_t_1, R_t_1, B_t_1, A_t_1_0, S_t_1_1, R_t_1_1, B_t_1_1, Q0_t_1, Q1_t_1, Q2_t_1⟩ := id h_t_1
  obtain ⟨S_t_3, R_t_3, B_t_3, A_t_3_0, S_t_3_1, R_t_3_1, B_t_3_1, Q0_t_3, Q1_t_3, Q2_t_3⟩ := id h_t_3
  obtain ⟨S_t_7, R_t_7, B_t_7, A_t_7_0, S_t_7_1, R_t_7_1, B_t_7_1, Q0_t_7, Q1_t_7, Q2_t_7⟩ := id h_t_7
  obtain ⟨S_t_11, R_t_11, B_t_11, A_t_11_0, S_t_11_1, R_t_11_1, B_t_11_1, Q0_t_11, Q1_t_11, Q2_t_11⟩ := id h_t_11
  obtain ⟨S_t_17, R_t_17, B_t_17, A_t_17_0, S_20, R_20, B_20, A_t_17_1, S_t_17_1, R_t_17_1, B_t_17_1, A_t_17_2, S_t_17_2, R_t_17_2, B_t_17_2, A_t_17_3, S_t_17_3, R_t_17_3, B_t_17_3, A_t_17_4, S_t_17_4, R_t_17_4, B_t_17_4, A_t_17_5, S_t_17_5, R_t_17_5, B_t_17_5, S_t_17_6, R_t_17_6, B_t_17_6, S_t_17_7, R_t_17_7, B_t_17_7⟩ := id h_t_17
  have hD : gv_D (gc_E5 ws0 tb 1 (yX5_compare, cX5_compare, 7, (some .int)) kX5_compare) := gq_of oX5_compare
  refine gc_ev5 (d := 1) (l := kX5_compare) (Po := fun r h' => (h' = gc_h sh I J A ∧ (∃ z : Int, r = some (.inl z) ∧ (-16777215) ≤ z ∧ z ≤ 16777215))) htb rfl (Nat.le_of_ble_eq_true rfl) ?_
  have f1 := (show (-1) ≤ I 61 2 ∧ I 61 2 ≤ 999999 from gc_in hI R_61 rfl rfl)
  have L76 : ∀ (v3_2 : Int) (v4_2 : Int), ((0 ≤ a1 ∧ a1 ≤ 8999) ∧ (0 ≤ a2 ∧ a2 ≤ 8999) ∧ ((-384) ≤ v3_2 ∧ v3_2 ≤ 1535) ∧ ((-384) ≤ v4_2 ∧ v4_2 ≤ 1535) ∧ (v3_2 = I 54 (Int.toNat a1)) ∧ (v4_2 = I 54 (Int.toNat a2)) ∧ (I 61 2 = (t : Int))) → gv_X (gc_E5 ws0 tb 1 (yX5_compare, cX5_compare, 7, (some .int)) kX5_compare) (gv_Q cX5_compare (some .int) sh (fun r h' => (h' = gc_h sh I J A ∧ (∃ z : Int, r = some (.inl z) ∧ (-16777215) ≤ z ∧ z ≤ 16777215)))) (76, [(0, .inr (.inr (some 61))), (1, .inl a1), (2, .inl a2), (3, .inl v3_2), (4, .inl v4_2)], [], sh, gc_h sh I J A) := by
    intro v3_2 v4_2 m_2
    obtain ⟨ha1_2, ha2_2, hv3_2, hv4_2, e0_2, e1_2, e2_2⟩ := m_2
    have f3 := (show (-1) ≤ I 61 2 ∧ I 61 2 ≤ 999999 from gc_in hI R_61 rfl rfl)
    have L85 : (((-384) ≤ v3_2 ∧ v3_2 ≤ 1535) ∧ (I 61 2 = (t : Int))) → gv_X (gc_E5 ws0 tb 1 (yX5_compare, cX5_compare, 7, (some .int)) kX5_compare) (gv_Q cX5_compare (some .int) sh (fun r h' => (h' = gc_h sh I J A ∧ (∃ z : Int, r = some (.inl z) ∧ (-16777215) ≤ z ∧ z ≤ 16777215)))) (85, [(3, .inl v3_2)], [], sh, gc_h sh I J A) := by
      intro m_4
      obtain ⟨hv3_2_4, e0_4⟩ := m_4
      have f5 := (show (-1) ≤ I 61 2 ∧ I 61 2 ≤ 999999 from gc_in hI R_61 rfl rfl)
      have L94 : ∀ (s0_6 : Int), (((-1) ≤ s0_6 ∧ s0_6 ≤ 1) ∧ (I 61 2 = (t : Int))) → gv_X (gc_E5 ws0 tb 1 (yX5_compare, cX5_compare, 7, (some .int)) kX5_compare) (gv_Q cX5_compare (some .int) sh (fun r h' => (h' = gc_h sh I J A ∧ (∃ z : Int, r = some (.inl z) ∧ (-16777215) ≤ z ∧ z ≤ 16777215)))) (94, [], [.inl s0_6], sh, gc_h sh I J A) := by
        intro s0_6 m_6
        obtain ⟨hs0_6, e0_6⟩ := m_6
        have f7 := (show (-1) ≤ I 61 2 ∧ I 61 2 ≤ 999999 from gc_in hI R_61 rfl rfl)
        exact gv_iret hD rfl ⟨rfl, ⟨_, rfl, by exact gz_m 0 (by omega)⟩⟩
      refine gv_run 1 true hD (pc' := 86) (lv' := [(3, .inl v3_2)]) (st' := [.inl v3_2]) (h' := gc_h sh I J A) (C := (True ∧ True)) rfl ⟨trivial, trivial⟩ ?_
      refine gv_if_lt (t := 93) hD rfl rfl ⟨by exact gz_m 1 (by omega), by exact gz_m 2 (by omega)⟩ (fun c8 => ?_) (fun c8 => ?_)
      · show gv_X _ _ (93, [(3, .inl v3_2)], [], sh, gc_h sh I J A)
        refine gv_run 1 true hD (pc' := 94) (lv' := [(3, .inl v3_2)]) (st' := [.inl 1]) (h' := gc_h sh I J A) (C := (True ∧ True)) rfl ⟨trivial, trivial⟩ ?_
        refine gv_pick [] rfl ?_
        exact L94 1 (by exact gz_m 3 (by omega))
      · show gv_X _ _ (89, [(3, .inl v3_2)], [], sh, gc_h sh I J A)
        refine gv_run 2 true hD (pc' := 94) (lv' := [(3, .inl v3_2)]) (st' := [.inl (-1)]) (h' := gc_h sh I J A) (C := ((True ∧ True) ∧ True)) rfl ⟨⟨trivial, trivial⟩, trivial⟩ ?_
        refine gv_pick [] rfl ?_
        exact L94 (-1) (by exact gz_m 4 (by omega))
    have L167 : ∀ (s0_9 : Int), (((-384) ≤ s0_9 ∧ s0_9 ≤ 384) ∧ (I 61 2 = (t : Int))) → gv_X (gc_E5 ws0 tb 1 (yX5_compare, cX5_compare, 7, (some .int)) kX5_compare) (gv_Q cX5_compare (some .int) sh (fun r h' => (h' = gc_h sh I J A ∧ (∃ z : Int, r = some (.inl z) ∧ (-16777215) ≤ z ∧ z ≤ 16777215)))) (167, [], [.inl s0_9], sh, gc_h sh I J A) := by
      intro s0_9 m_9
      obtain ⟨hs0_9, e0_9⟩ := m_9
      have f10 := (show (-1) ≤ I 61 2 ∧ I 61 2 ≤ 999999 from gc_in hI R_61 rfl rfl)
      exact gv_iret hD rfl ⟨rfl, ⟨_, rfl, by exact gz_m 5 (by omega)⟩⟩
    refine gv_run 1 true hD (pc' := 77) (lv' := [(0, .inr (.inr (some 61))), (1, .inl a1), (2, .inl a2), (3, .inl v3_2), (4, .inl v4_2)]) (st' := [.inl v3_2]) (h' := gc_h sh I J A) (C := (True ∧ True)) rfl ⟨trivial, trivial⟩ ?_
    refine gv_if_ge (t := 85) hD rfl rfl ⟨by exact gz_m 6 (by omega), by exact gz_m 7 (by omega)⟩ (fun c11 => ?_) (fun c11 => ?_)
    · show gv_X _ _ (85, [(0, .inr (.inr (some 61))), (1, .inl a1), (2, .inl a2), (3, .inl v3_2), (4, .inl v4_2)], [], sh, gc_h sh I J A)
      refine gv_pick [3] rfl ?_
      exact L85 (by exact gz_m 8 (by omega))
    · show gv_X _ _ (80, [(0, .inr (.inr (some 61))), (1, .inl a1), (2, .inl a2), (3, .inl v3_2), (4, .inl v4_2)], [], sh, gc_h sh I J A)
      refine gv_run 1 true hD (pc' := 82) (lv' := [(0, .inr (.inr (some 61))), (1, .inl a1), (2, .inl a2), (3, .inl v3_2), (4, .inl v4_2)]) (st' := [.inl v4_2]) (h' := gc_h sh I J A) (C := (True ∧ True)) rfl ⟨trivial, trivial⟩ ?_
      refine gv_if_lt (t := 95) hD rfl rfl ⟨by exact gz_m 9 (by omega), by exact gz_m 10 (by omega)⟩ (fun c12 => ?_) (fun c12 => ?_)
      · show gv_X _ _ (95, [(0, .inr (.inr (some 61))), (1, .inl a1), (2, .inl a2), (3, .inl v3_2), (4, .inl v4_2)], [], sh, gc_h sh I J A)
        have t13 := x1 (Int.toNat a1) (by exact gz_m 11 (by omega))
        have t14 := x1 (Int.toNat a2) (by exact gz_m 12 (by omega))
        refine gv_run 1 true hD (pc' := 96) (lv' := [(0, .inr (.inr (some 61))), (1, .inl a1), (2, .inl a2), (3, .inl v3_2), (4, .inl v4_2)]) (st' := [.inr (.inr (some 61))]) (h' := gc_h sh I J A) (C := (True ∧ True)) rfl ⟨trivial, trivial⟩ ?_
        refine gv_get hD rfl rfl S_61 ⟨by decide, B_61⟩ (gc_h5 (t := t) S_61 rfl (by exact gz_m 13 (by omega))) ?_
        show gv_X _ _ (99, [(0, .inr (.inr (some 61))), (1, .inl a1), (2, .inl a2), (3, .inl v3_2), (4, .inl v4_2)], [.inr (.inr (some t))], sh, gc_h sh I J A)
        refine gv_get hD rfl rfl S_t ⟨by decide, B_t⟩ (gc_hA S_t rfl A_t_14) ?_
        show gv_X _ _ (102, [(0, .inr (.inr (some 61))), (1, .inl a1), (2, .inl a2), (3, .inl v3_2), (4, .inl v4_2)], [.inr (.inr (some (t + 16)))], sh, gc_h sh I J A)
        refine gv_run 3 true hD (pc' := 105) (lv' := [(0, .inr (.inr (some 61))), (1, .inl a1), (2, .inl a2), (3, .inl v3_2), (4, .inl v4_2)]) (st' := [.inl ((-1) - v3_2), .inr (.inr (some (t + 16)))]) (h' := gc_h sh I J A) (C := (((True ∧ True) ∧ True) ∧ True)) rfl ⟨⟨⟨trivial, trivial⟩, trivial⟩, trivial⟩ ?_
        obtain ⟨t15_, A_t15, h_t15, G_t15, U_t15, V_t15⟩ := x0 (Int.toNat (((-1) - v3_2))) (by exact gz_m 14 (by omega))
        obtain ⟨S_t15, R_t15, B_t15, A_t15_5, S_t15__1, R_t15__1, B_t15__1, A_t15_6, S_t15__2, R_t15__2, B_t15__2, A_t15_7, S_t15__3, R_t15__3, B_t15__3, A_t15_9, S_t15__4, R_t15__4, B_t15__4, A_t15_10, S_t15__5, R_t15__5, B_t15__5, A_t15_11, S_t15__6, R_t15__6, B_t15__6, A_t15_13, S_t15__7, R_t15__7, B_t15__7, A_t15_15, S_t15__8, R_t15__8, B_t15__8⟩ := id h_t15
        refine gv_aald hD rfl S_t_16 ⟨by decide, by decide⟩ ⟨by decide, B_t_16⟩ ⟨by exact gz_m 15 (by omega), by exact gz_m 16 (by omega)⟩ ((gc_aA S_t_16 rfl).trans A_t15) ?_
        show gv_X _ _ (106, [(0, .inr (.inr (some 61))), (1, .inl a1), (2, .inl a2), (3, .inl v3_2), (4, .inl v4_2)], [.inr (.inr (some t15_))], sh, gc_h sh I J A)
        refine gv_run 2 true hD (pc' := 109) (lv' := [(5, .inr (.inr (some t15_))), (0, .inr (.inr (some 61))), (1, .inl a1), (2, .inl a2), (3, .inl v3_2), (4, .inl v4_2)]) (st' := [.inr (.inr (some 61))]) (h' := gc_h sh I J A) (C := ((True ∧ True) ∧ True)) rfl ⟨⟨trivial, trivial⟩, trivial⟩ ?_
        refine gv_get hD rfl rfl S_61 ⟨by decide, B_61⟩ (gc_h5 (t := t) S_61 rfl (by exact gz_m 17 (by omega))) ?_
        show gv_X _ _ (112, [(5, .inr (.inr (some t15_))), (0, .inr (.inr (some 61))), (1, .inl a1), (2, .inl a2), (3, .inl v3_2), (4, .inl v4_2)], [.inr (.inr (some t))], sh, gc_h sh I J A)
        refine gv_get hD rfl rfl S_t ⟨by decide, B_t⟩ (gc_hA S_t rfl A_t_14) ?_
        show gv_X _ _ (115, [(5, .inr (.inr (some t15_))), (0, .inr (.inr (some 61))), (1, .inl a1), (2, .inl a2), (3, .inl v3_2), (4, .inl v4_2)], [.inr (.inr (some (t + 16)))], sh, gc_h sh I J A)
        refine gv_run 3 true hD (pc' := 119) (lv' := [(5, .inr (.inr (some t15_))), (0, .inr (.inr (some 61))), (1, .inl a1), (2, .inl a2), (3, .inl v3_2), (4, .inl v4_2)]) (st' := [.inl ((-1) - v4_2), .inr (.inr (some (t + 16)))]) (h' := gc_h sh I J A) (C := (((True ∧ True) ∧ True) ∧ True)) rfl ⟨⟨⟨trivial, trivial⟩, trivial⟩, trivial⟩ ?_
        obtain ⟨t16_, A_t16, h_t16, G_t16, U_t16, V_t16⟩ := x0 (Int.toNat (((-1) - v4_2))) (by exact gz_m 18 (by omega))
        obtain ⟨S_t16, R_t16, B_t16, A_t16_5, S_t16__1, R_t16__1, B_t16__1, A_t16_6, S_t16__2, R_t16__2, B_t16__2, A_t16_7, S_t16__3, R_t16__3, B_t16__3, A_t16_9, S_t16__4, R_t16__4, B_t16__4, A_t16_10, S_t16__5, R_t16__5, B_t16__5, A_t16_11, S_t16__6, R_t16__6, B_t16__6, A_t16_13, S_t16__7, R_t16__7, B_t16__7, A_t16_15, S_t16__8, R_t16__8, B_t16__8⟩ := id h_t16
        refine gv_aald hD rfl S_t_16 ⟨by decide, by decide⟩ ⟨by decide, B_t_16⟩ ⟨by exact gz_m 19 (by omega), by exact gz_m 20 (by omega)⟩ ((gc_aA S_t_16 rfl).trans A_t16) ?_
        show gv_X _ _ (120, [(5, .inr (.inr (some t15_))), (0, .inr (.inr (some 61))), (1, .inl a1), (2, .inl a2), (3, .inl v3_2), (4, .inl v4_2)], [.inr (.inr (some t16_))], sh, gc_h sh I J A)
        refine gv_run 3 true hD (pc' := 126) (lv' := [(6, .inr (.inr (some t16_))), (5, .inr (.inr (some t15_))), (0, .inr (.inr (some 61))), (1, .inl a1), (2, .inl a2), (3, .inl v3_2), (4, .inl v4_2)]) (st' := [.inr (.inr (some t16_)), .inr (.inr (some t15_))]) (h' := gc_h sh I J A) (C := (((True ∧ True) ∧ True) ∧ True)) rfl ⟨⟨⟨trivial, trivial⟩, trivial⟩, trivial⟩ ?_
        refine gv_acmp_eq (t := 168) hD rfl rfl ⟨gc_ltS S_t15, B_t15⟩ ⟨gc_ltS S_t16, B_t16⟩ (fun c17 => ?_) (fun c17 => ?_)
        · show gv_X _ _ (168, [(6, .inr (.inr (some t16_))), (5, .inr (.inr (some t15_))), (0, .inr (.inr (some 61))), (1, .inl a1), (2, .inl a2), (3, .inl v3_2), (4, .inl v4_2)], [], sh, gc_h sh I J A)
          refine gv_run 7 true hD (pc' := 175) (lv' := [(6, .inr (.inr (some t16_))), (5, .inr (.inr (some t15_))), (0, .inr (.inr (some 61))), (1, .inl a1), (2, .inl a2), (3, .inl v3_2), (4, .inl v4_2)]) (st' := [.inl (a2 * 4), .inl (a1 * 4), .inr (.inr (some 61))]) (h' := gc_h sh I J A) (C := (((((((True ∧ True) ∧ True) ∧ True) ∧ True) ∧ True) ∧ True) ∧ True)) rfl ⟨⟨⟨⟨⟨⟨⟨trivial, trivial⟩, trivial⟩, trivial⟩, trivial⟩, trivial⟩, trivial⟩, trivial⟩ ?_
          refine gv_run 1 true hD (pc' := 177) (lv' := [(6, .inr (.inr (some t16_))), (5, .inr (.inr (some t15_))), (0, .inr (.inr (some 61))), (1, .inl a1), (2, .inl a2), (3, .inl v3_2), (4, .inl v4_2)]) (st' := [.inr (.inr (some t15_)), .inl (a2 * 4), .inl (a1 * 4), .inr (.inr (some 61))]) (h' := gc_h sh I J A) (C := (True ∧ True)) rfl ⟨trivial, trivial⟩ ?_
          have f18 := (show 0 ≤ I t15_ 8 ∧ I t15_ 8 ≤ 4 from gc_in hI R_t15 rfl rfl)
          refine gv_get hD rfl rfl S_t15 ⟨by decide, B_t15⟩ (gc_hI S_t15 rfl) ?_
          show gv_X _ _ (180, [(6, .inr (.inr (some t16_))), (5, .inr (.inr (some t15_))), (0, .inr (.inr (some 61))), (1, .inl a1), (2, .inl a2), (3, .inl v3_2), (4, .inl v4_2)], [.inl (I t15_ 8), .inl (a2 * 4), .inl (a1 * 4), .inr (.inr (some 61))], sh, gc_h sh I J A)
          obtain ⟨r19, h19, E19, P19⟩ := d_X5_compareArguments (ws0 := ws0) (tb := tb) hws htb sh ro I J A hI  (a1 * 4) (a2 * 4) (I t15_ 8) hb   ⟨by exact gz_m 21 (by omega), by exact gz_m 22 (by omega)⟩ ⟨by exact gz_m 23 (by omega), by exact gz_m 24 (by omega)⟩ ⟨by exact gz_m 25 (by omega), by exact gz_m 26 (by omega)⟩  
          obtain ⟨rfl, ⟨z19, rfl, q19⟩⟩ := P19
          refine gv_callV hD rfl (As := [.inl (a1 * 4), .inl (a2 * 4), .inl (I t15_ 8)]) (st := []) rfl B_61 S_61 rfl (gc_lV5 hws rfl) (Nat.le_of_ble_eq_true rfl) (gz_Ev_mono (d := 1) (by decide) E19) ?_
          show gv_X _ _ (183, [(6, .inr (.inr (some t16_))), (5, .inr (.inr (some t15_))), (0, .inr (.inr (some 61))), (1, .inl a1), (2, .inl a2), (3, .inl v3_2), (4, .inl v4_2)], [.inl z19], sh, gc_h sh I J A)
          exact gv_iret hD rfl ⟨rfl, ⟨_, rfl, by exact gz_m 27 (by omega)⟩⟩
        · show gv_X _ _ (129, [(6, .inr (.inr (some t16_))), (5, .inr (.inr (some t15_))), (0, .inr (.inr (some 61))), (1, .inl a1), (2, .inl a2), (3, .inl v3_2), (4, .inl v4_2)], [], sh, gc_h sh I J A)
          refine gv_run 1 true hD (pc' := 131) (lv' := [(6, .inr (.inr (some t16_))), (5, .inr (.inr (some t15_))), (0, .inr (.inr (some 61))), (1, .inl a1), (2, .inl a2), (3, .inl v3_2), (4, .inl v4_2)]) (st' := [.inr (.inr (some t15_))]) (h' := gc_h sh I J A) (C := (True ∧ True)) rfl ⟨trivial, trivial⟩ ?_
          have f20 := (show 0 ≤ I t15_ 1 ∧ I t15_ 1 ≤ 95 from gc_in hI R_t15 rfl rfl)
          refine gv_get hD rfl rfl S_t15 ⟨by decide, B_t15⟩ (gc_hI S_t15 rfl) ?_
          show gv_X _ _ (134, [(6, .inr (.inr (some t16_))), (5, .inr (.inr (some t15_))), (0, .inr (.inr (some 61))), (1, .inl a1), (2, .inl a2), (3, .inl v3_2), (4, .inl v4_2)], [.inl (I t15_ 1)], sh, gc_h sh I J A)
          refine gv_run 1 true hD (pc' := 136) (lv' := [(6, .inr (.inr (some t16_))), (5, .inr (.inr (some t15_))), (0, .inr (.inr (some 61))), (1, .inl a1), (2, .inl a2), (3, .inl v3_2), (4, .inl v4_2)]) (st' := [.inr (.inr (some t16_)), .inl (I t15_ 1)]) (h' := gc_h sh I J A) (C := (True ∧ True)) rfl ⟨trivial, trivial⟩ ?_
          have f21 := (show 0 ≤ I t16_ 1 ∧ I t16_ 1 ≤ 95 from gc_in hI R_t16 rfl rfl)
          refine gv_get hD rfl rfl S_t16 ⟨by decide, B_t16⟩ (gc_hI S_t16 rfl) ?_
          show gv_X _ _ (139, [(6, .inr (.inr (some t16_))), (5, .inr (.inr (some t15_))), (0, .inr (.inr (some 61))), (1, .inl a1), (2, .inl a2), (3, .inl v3_2), (4, .inl v4_2)], [.inl (I t16_ 1), .inl (I t15_ 1)], sh, gc_h sh I J A)
          refine gv_icmp_eq (t := 156) hD rfl rfl ⟨⟨by exact gz_m 28 (by omega), by exact gz_m 29 (by omega)⟩, ⟨by exact gz_m 30 (by omega), by exact gz_m 31 (by omega)⟩⟩ (fun c22 => ?_) (fun c22 => ?_)
          · show gv_X _ _ (156, [(6, .inr (.inr (some t16_))), (5, .inr (.inr (some t15_))), (0, .inr (.inr (some 61))), (1, .inl a1), (2, .inl a2), (3, .inl v3_2), (4, .inl v4_2)], [], sh, gc_h sh I J A)
            refine gv_run 1 true hD (pc' := 158) (lv' := [(6, .inr (.inr (some t16_))), (5, .inr (.inr (some t15_))), (0, .inr (.inr (some 61))), (1, .inl a1), (2, .inl a2), (3, .inl v3_2), (4, .inl v4_2)]) (st' := [.inr (.inr (some t15_))]) (h' := gc_h sh I J A) (C := (True ∧ True)) rfl ⟨trivial, trivial⟩ ?_
            have f23 := (show 0 ≤ I t15_ 2 ∧ I t15_ 2 ≤ 384 from gc_in hI R_t15 rfl rfl)
            refine gv_get hD rfl rfl S_t15 ⟨by decide, B_t15⟩ (gc_hI S_t15 rfl) ?_
            show gv_X _ _ (161, [(6, .inr (.inr (some t16_))), (5, .inr (.inr (some t15_))), (0, .inr (.inr (some 61))), (1, .inl a1), (2, .inl a2), (3, .inl v3_2), (4, .inl v4_2)], [.inl (I t15_ 2)], sh, gc_h sh I J A)
            refine gv_run 1 true hD (pc' := 163) (lv' := [(6, .inr (.inr (some t16_))), (5, .inr (.inr (some t15_))), (0, .inr (.inr (some 61))), (1, .inl a1), (2, .inl a2), (3, .inl v3_2), (4, .inl v4_2)]) (st' := [.inr (.inr (some t16_)), .inl (I t15_ 2)]) (h' := gc_h sh I J A) (C := (True ∧ True)) rfl ⟨trivial, trivial⟩ ?_
            have f24 := (show 0 ≤ I t16_ 2 ∧ I t16_ 2 ≤ 384 from gc_in hI R_t16 rfl rfl)
            refine gv_get hD rfl rfl S_t16 ⟨by decide, B_t16⟩ (gc_hI S_t16 rfl) ?_
            show gv_X _ _ (166, [(6, .inr (.inr (some t16_))), (5, .inr (.inr (some t15_))), (0, .inr (.inr (some 61))), (1, .inl a1), (2, .inl a2), (3, .inl v3_2), (4, .inl v4_2)], [.inl (I t16_ 2), .inl (I t15_ 2)], sh, gc_h sh I J A)
            refine gv_run 1 true hD (pc' := 167) (lv' := [(6, .inr (.inr (some t16_))), (5, .inr (.inr (some t15_))), (0, .inr (.inr (some 61))), (1, .inl a1), (2, .inl a2), (3, .inl v3_2), (4, .inl v4_2)]) (st' := [.inl ((I t15_ 2) - (I t16_ 2))]) (h' := gc_h sh I J A) (C := (True ∧ True)) rfl ⟨trivial, trivial⟩ ?_
            refine gv_pick [] rfl ?_
            exact L167 (((I t15_ 2) - (I t16_ 2))) (by exact gz_m 32 (by omega))
          · show gv_X _ _ (142, [(6, .inr (.inr (some t16_))), (5, .inr (.inr (some t15_))), (0, .inr (.inr (some 61))), (1, .inl a1), (2, .inl a2), (3, .inl v3_2), (4, .inl v4_2)], [], sh, gc_h sh I J A)
            refine gv_run 1 true hD (pc' := 144) (lv' := [(6, .inr (.inr (some t16_))), (5, .inr (.inr (some t15_))), (0, .inr (.inr (some 61))), (1, .inl a1), (2, .inl a2), (3, .inl v3_2), (4, .inl v4_2)]) (st' := [.inr (.inr (some t15_))]) (h' := gc_h sh I J A) (C := (True ∧ True)) rfl ⟨trivial, trivial⟩ ?_
            have f25 := (show 0 ≤ I t15_ 1 ∧ I t15_ 1 ≤ 95 from gc_in hI R_t15 rfl rfl)
            refine gv_get hD rfl rfl S_t15 ⟨by decide, B_t15⟩ (gc_hI S_t15 rfl) ?_
            show gv_X _ _ (147, [(6, .inr (.inr (some t16_))), (5, .inr (.inr (some t15_))), (0, .inr (.inr (some 61))), (1, .inl a1), (2, .inl a2), (3, .inl v3_2), (4, .inl v4_2)], [.inl (I t15_ 1)], sh, gc_h sh I J A)
            refine gv_run 1 true hD (pc' := 149) (lv' := [(6, .inr (.inr (some t16_))), (5, .inr (.inr (some t15_))), (0, .inr (.inr (some 61))), (1, .inl a1), (2, .inl a2), (3, .inl v3_2), (4, .inl v4_2)]) (st' := [.inr (.inr (some t16_)), .inl (I t15_ 1)]) (h' := gc_h sh I J A) (C := (True ∧ True)) rfl ⟨trivial, trivial⟩ ?_
            have f26 := (show 0 ≤ I t16_ 1 ∧ I t16_ 1 ≤ 95 from gc_in hI R_t16 rfl rfl)
            refine gv_get hD rfl rfl S_t16 ⟨by decide, B_t16⟩ (gc_hI S_t16 rfl) ?_
            show gv_X _ _ (152, [(6, .inr (.inr (some t16_))), (5, .inr (.inr (some t15_))), (0, .inr (.inr (some 61))), (1, .inl a1), (2, .inl a2), (3, .inl v3_2), (4, .inl v4_2)], [.inl (I t16_ 1), .inl (I t15_ 1)], sh, gc_h sh I J A)
            refine gv_run 2 true hD (pc' := 167) (lv' := [(6, .inr (.inr (some t16_))), (5, .inr (.inr (some t15_))), (0, .inr (.inr (some 61))), (1, .inl a1), (2, .inl a2), (3, .inl v3_2), (4, .inl v4_2)]) (st' := [.inl ((I t15_ 1) - (I t16_ 1))]) (h' := gc_h sh I J A) (C := ((True ∧ True) ∧ True)) rfl ⟨⟨trivial, trivial⟩, trivial⟩ ?_
            refine gv_pick [] rfl ?_
            exact L167 (((I t15_ 1) - (I t16_ 1))) (by exact gz_m 33 (by omega))
      · show gv_X _ _ (85, [(0, .inr (.inr (some 61))), (1, .inl a1), (2, .inl a2), (3, .inl v3_2), (4, .inl v4_2)], [], sh, gc_h sh I J A)
        refine gv_pick [3] rfl ?_
        exact L85 (by exact gz_m 34 (by omega))
  refine gv_run 1 true hD (pc' := 1) (lv' := [(0, .inr (.inr (some 61))), (1, .inl a1), (2, .inl a2)]) (st' := [.inr (.inr (some 61))]) (h' := gc_h sh I J A) (C := (True ∧ True)) rfl ⟨trivial, trivial⟩ ?_
  refine gv_get hD rfl rfl S_61 ⟨by decide, B_61⟩ (gc_hA S_61 rfl A_61_1) ?_
  show gv_X _ _ (4, [(0, .inr (.inr (some 61))), (1, .inl a1), (2, .inl a2)], [.inr (.inr (some 48))], sh, gc_h sh I J A)
  refine gv_get hD rfl rfl S_48 ⟨by decide, B_48⟩ (gc_hA S_48 rfl A_48_8) ?_
  show gv_X _ _ (7, [(0, .inr (.inr (some 61))), (1, .inl a1), (2, .inl a2)], [.inr (.inr (some 54))], sh, gc_h sh I J A)
  refine gv_run 1 true hD (pc' := 8) (lv' := [(0, .inr (.inr (some 61))), (1, .inl a1), (2, .inl a2)]) (st' := [.inl a1, .inr (.inr (some 54))]) (h' := gc_h sh I J A) (C := (True ∧ True)) rfl ⟨trivial, trivial⟩ ?_
  have f27 := (show (-384) ≤ I 54 (Int.toNat a1) ∧ I 54 (Int.toNat a1) ≤ 1535 from gc_in hI R_54 rfl rfl)
  refine gv_iald hD rfl S_54 rfl ⟨by decide, B_54⟩ ⟨by exact gz_m 35 (by omega), by exact gz_m 36 (by omega)⟩ (gc_iI S_54 rfl) ?_
  show gv_X _ _ (9, [(0, .inr (.inr (some 61))), (1, .inl a1), (2, .inl a2)], [.inl (I 54 (Int.toNat a1))], sh, gc_h sh I J A)
  refine gv_run 2 true hD (pc' := 11) (lv' := [(3, .inl (I 54 (Int.toNat a1))), (0, .inr (.inr (some 61))), (1, .inl a1), (2, .inl a2)]) (st' := [.inr (.inr (some 61))]) (h' := gc_h sh I J A) (C := ((True ∧ True) ∧ True)) rfl ⟨⟨trivial, trivial⟩, trivial⟩ ?_
  refine gv_get hD rfl rfl S_61 ⟨by decide, B_61⟩ (gc_hA S_61 rfl A_61_1) ?_
  show gv_X _ _ (14, [(3, .inl (I 54 (Int.toNat a1))), (0, .inr (.inr (some 61))), (1, .inl a1), (2, .inl a2)], [.inr (.inr (some 48))], sh, gc_h sh I J A)
  refine gv_get hD rfl rfl S_48 ⟨by decide, B_48⟩ (gc_hA S_48 rfl A_48_8) ?_
  show gv_X _ _ (17, [(3, .inl (I 54 (Int.toNat a1))), (0, .inr (.inr (some 61))), (1, .inl a1), (2, .inl a2)], [.inr (.inr (some 54))], sh, gc_h sh I J A)
  refine gv_run 1 true hD (pc' := 18) (lv' := [(3, .inl (I 54 (Int.toNat a1))), (0, .inr (.inr (some 61))), (1, .inl a1), (2, .inl a2)]) (st' := [.inl a2, .inr (.inr (some 54))]) (h' := gc_h sh I J A) (C := (True ∧ True)) rfl ⟨trivial, trivial⟩ ?_
  have f28 := (show (-384) ≤ I 54 (Int.toNat a2) ∧ I 54 (Int.toNat a2) ≤ 1535 from gc_in hI R_54 rfl rfl)
  refine gv_iald hD rfl S_54 rfl ⟨by decide, B_54⟩ ⟨by exact gz_m 37 (by omega), by exact gz_m 38 (by omega)⟩ (gc_iI S_54 rfl) ?_
  show gv_X _ _ (19, [(3, .inl (I 54 (Int.toNat a1))), (0, .inr (.inr (some 61))), (1, .inl a1), (2, .inl a2)], [.inl (I 54 (Int.toNat a2))], sh, gc_h sh I J A)
  refine gv_run 2 true hD (pc' := 22) (lv' := [(4, .inl (I 54 (Int.toNat a2))), (3, .inl (I 54 (Int.toNat a1))), (0, .inr (.inr (some 61))), (1, .inl a1), (2, .inl a2)]) (st' := [.inr (.inr (some 61))]) (h' := gc_h sh I J A) (C := ((True ∧ True) ∧ True)) rfl ⟨⟨trivial, trivial⟩, trivial⟩ ?_
  refine gv_get hD rfl rfl S_61 ⟨by decide, B_61⟩ (gc_hA S_61 rfl A_61_1) ?_
  show gv_X _ _ (25, [(4, .inl (I 54 (Int.toNat a2))), (3, .inl (I 54 (Int.toNat a1))), (0, .inr (.inr (some 61))), (1, .inl a1), (2, .inl a2)], [.inr (.inr (some 48))], sh, gc_h sh I J A)
  refine gv_get hD rfl rfl S_48 ⟨by decide, B_48⟩ (gc_hA S_48 rfl A_48_7) ?_
  show gv_X _ _ (28, [(4, .inl (I 54 (Int.toNat a2))), (3, .inl (I 54 (Int.toNat a1))), (0, .inr (.inr (some 61))), (1, .inl a1), (2, .inl a2)], [.inr (.inr (some 53))], sh, gc_h sh I J A)
  refine gv_run 1 true hD (pc' := 29) (lv' := [(4, .inl (I 54 (Int.toNat a2))), (3, .inl (I 54 (Int.toNat a1))), (0, .inr (.inr (some 61))), (1, .inl a1), (2, .inl a2)]) (st' := [.inl a1, .inr (.inr (some 53))]) (h' := gc_h sh I J A) (C := (True ∧ True)) rfl ⟨trivial, trivial⟩ ?_
  have f29 := (show 0 ≤ I 53 (Int.toNat a1) ∧ I 53 (Int.toNat a1) ≤ 2999 from gc_in hI R_53 rfl rfl)
  refine gv_iald hD rfl S_53 rfl ⟨by decide, B_53⟩ ⟨by exact gz_m 39 (by omega), by exact gz_m 40 (by omega)⟩ (gc_iI S_53 rfl) ?_
  show gv_X _ _ (30, [(4, .inl (I 54 (Int.toNat a2))), (3, .inl (I 54 (Int.toNat a1))), (0, .inr (.inr (some 61))), (1, .inl a1), (2, .inl a2)], [.inl (I 53 (Int.toNat a1))], sh, gc_h sh I J A)
  refine gv_run 1 true hD (pc' := 31) (lv' := [(4, .inl (I 54 (Int.toNat a2))), (3, .inl (I 54 (Int.toNat a1))), (0, .inr (.inr (some 61))), (1, .inl a1), (2, .inl a2)]) (st' := [.inr (.inr (some 61)), .inl (I 53 (Int.toNat a1))]) (h' := gc_h sh I J A) (C := (True ∧ True)) rfl ⟨trivial, trivial⟩ ?_
  refine gv_get hD rfl rfl S_61 ⟨by decide, B_61⟩ (gc_hA S_61 rfl A_61_1) ?_
  show gv_X _ _ (34, [(4, .inl (I 54 (Int.toNat a2))), (3, .inl (I 54 (Int.toNat a1))), (0, .inr (.inr (some 61))), (1, .inl a1), (2, .inl a2)], [.inr (.inr (some 48)), .inl (I 53 (Int.toNat a1))], sh, gc_h sh I J A)
  refine gv_get hD rfl rfl S_48 ⟨by decide, B_48⟩ (gc_hA S_48 rfl A_48_7) ?_
  show gv_X _ _ (37, [(4, .inl (I 54 (Int.toNat a2))), (3, .inl (I 54 (Int.toNat a1))), (0, .inr (.inr (some 61))), (1, .inl a1), (2, .inl a2)], [.inr (.inr (some 53)), .inl (I 53 (Int.toNat a1))], sh, gc_h sh I J A)
  refine gv_run 1 true hD (pc' := 38) (lv' := [(4, .inl (I 54 (Int.toNat a2))), (3, .inl (I 54 (Int.toNat a1))), (0, .inr (.inr (some 61))), (1, .inl a1), (2, .inl a2)]) (st' := [.inl a2, .inr (.inr (some 53)), .inl (I 53 (Int.toNat a1))]) (h' := gc_h sh I J A) (C := (True ∧ True)) rfl ⟨trivial, trivial⟩ ?_
  have f30 := (show 0 ≤ I 53 (Int.toNat a2) ∧ I 53 (Int.toNat a2) ≤ 2999 from gc_in hI R_53 rfl rfl)
  refine gv_iald hD rfl S_53 rfl ⟨by decide, B_53⟩ ⟨by exact gz_m 41 (by omega), by exact gz_m 42 (by omega)⟩ (gc_iI S_53 rfl) ?_
  show gv_X _ _ (39, [(4, .inl (I 54 (Int.toNat a2))), (3, .inl (I 54 (Int.toNat a1))), (0, .inr (.inr (some 61))), (1, .inl a1), (2, .inl a2)], [.inl (I 53 (Int.toNat a2)), .inl (I 53 (Int.toNat a1))], sh, gc_h sh I J A)
  refine gv_icmp_eq (t := 62) hD rfl rfl ⟨⟨by exact gz_m 43 (by omega), by exact gz_m 44 (by omega)⟩, ⟨by exact gz_m 45 (by omega), by exact gz_m 46 (by omega)⟩⟩ (fun c31 => ?_) (fun c31 => ?_)
  · show gv_X _ _ (62, [(4, .inl (I 54 (Int.toNat a2))), (3, .inl (I 54 (Int.toNat a1))), (0, .inr (.inr (some 61))), (1, .inl a1), (2, .inl a2)], [], sh, gc_h sh I J A)
    refine gv_run 1 true hD (pc' := 63) (lv' := [(4, .inl (I 54 (Int.toNat a2))), (3, .inl (I 54 (Int.toNat a1))), (0, .inr (.inr (some 61))), (1, .inl a1), (2, .inl a2)]) (st' := [.inl (I 54 (Int.toNat a1))]) (h' := gc_h sh I J A) (C := (True ∧ True)) rfl ⟨trivial, trivial⟩ ?_
    refine gv_if_lt (t := 76) hD rfl rfl ⟨by exact gz_m 47 (by omega), by exact gz_m 48 (by omega)⟩ (fun c32 => ?_) (fun c32 => ?_)
    · show gv_X _ _ (76, [(4, .inl (I 54 (Int.toNat a2))), (3, .inl (I 54 (Int.toNat a1))), (0, .inr (.inr (some 61))), (1, .inl a1), (2, .inl a2)], [], sh, gc_h sh I J A)
      refine gv_pick [2, 3, 4, 1, 0] rfl ?_
      exact L76 ((I 54 (Int.toNat a1))) ((I 54 (Int.toNat a2))) (by exact gz_m 49 (by omega))
    · show gv_X _ _ (66, [(4, .inl (I 54 (Int.toNat a2))), (3, .inl (I 54 (Int.toNat a1))), (0, .inr (.inr (some 61))), (1, .inl a1), (2, .inl a2)], [], sh, gc_h sh I J A)
      refine gv_run 1 true hD (pc' := 68) (lv' := [(4, .inl (I 54 (Int.toNat a2))), (3, .inl (I 54 (Int.toNat a1))), (0, .inr (.inr (some 61))), (1, .inl a1), (2, .inl a2)]) (st' := [.inl (I 54 (Int.toNat a2))]) (h' := gc_h sh I J A) (C := (True ∧ True)) rfl ⟨trivial, trivial⟩ ?_
      refine gv_if_lt (t := 76) hD rfl rfl ⟨by exact gz_m 50 (by omega), by exact gz_m 51 (by omega)⟩ (fun c33 => ?_) (fun c33 => ?_)
      · show gv_X _ _ (76, [(4, .inl (I 54 (Int.toNat a2))), (3, .inl (I 54 (Int.toNat a1))), (0, .inr (.inr (some 61))), (1, .inl a1), (2, .inl a2)], [], sh, gc_h sh I J A)
        refine gv_pick [2, 3, 4, 1, 0] rfl ?_
        exact L76 ((I 54 (Int.toNat a1))) ((I 54 (Int.toNat a2))) (by exact gz_m 52 (by omega))
      · show gv_X _ _ (71, [(4, .inl (I 54 (Int.toNat a2))), (3, .inl (I 54 (Int.toNat a1))), (0, .inr (.inr (some 61))), (1, .inl a1), (2, .inl a2)], [], sh, gc_h sh I J A)
        refine gv_run 3 true hD (pc' := 75) (lv' := [(4, .inl (I 54 (Int.toNat a2))), (3, .inl (I 54 (Int.toNat a1))), (0, .inr (.inr (some 61))), (1, .inl a1), (2, .inl a2)]) (st' := [.inl ((I 54 (Int.toNat a1)) - (I 54 (Int.toNat a2)))]) (h' := gc_h sh I J A) (C := (((True ∧ True) ∧ True) ∧ True)) rfl ⟨⟨⟨trivial, trivial⟩, trivial⟩, trivial⟩ ?_
        exact gv_iret hD rfl ⟨rfl, ⟨_, rfl, by exact gz_m 53 (by omega)⟩⟩
  · show gv_X _ _ (42, [(4, .inl (I 54 (Int.toNat a2))), (3, .inl (I 54 (Int.toNat a1))), (0, .inr (.inr (some 61))), (1, .inl a1), (2, .inl a2)], [], sh, gc_h sh I J A)
    refine gv_run 1 true hD (pc' := 43) (lv' := [(4, .inl (I 54 (Int.toNat a2))), (3, .inl (I 54 (Int.toNat a1))), (0, .inr (.inr (some 61))), (1, .inl a1), (2, .inl a2)]) (st' := [.inr (.inr (some 61))]) (h' := gc_h sh I J A) (C := (True ∧ True)) rfl ⟨trivial, trivial⟩ ?_
    refine gv_get hD rfl rfl S_61 ⟨by decide, B_61⟩ (gc_hA S_61 rfl A_61_1) ?_
    show gv_X _ _ (46, [(4, .inl (I 54 (Int.toNat a2))), (3, .inl (I 54 (Int.toNat a1))), (0, .inr (.inr (some 61))), (1, .inl a1), (2, .inl a2)], [.inr (.inr (some 48))], sh, gc_h sh I J A)
    refine gv_get hD rfl rfl S_48 ⟨by decide, B_48⟩ (gc_hA S_48 rfl A_48_7) ?_
    show gv_X _ _ (49, [(4, .inl (I 54 (Int.toNat a2))), (3, .inl (I 54 (Int.toNat a1))), (0, .inr (.inr (some 61))), (1, .inl a1), (2, .inl a2)], [.inr (.inr (some 53))], sh, gc_h sh I J A)
    refine gv_run 1 true hD (pc' := 50) (lv' := [(4, .inl (I 54 (Int.toNat a2))), (3, .inl (I 54 (Int.toNat a1))), (0, .inr (.inr (some 61))), (1, .inl a1), (2, .inl a2)]) (st' := [.inl a1, .inr (.inr (some 53))]) (h' := gc_h sh I J A) (C := (True ∧ True)) rfl ⟨trivial, trivial⟩ ?_
    have f34 := (show 0 ≤ I 53 (Int.toNat a1) ∧ I 53 (Int.toNat a1) ≤ 2999 from gc_in hI R_53 rfl rfl)
    refine gv_iald hD rfl S_53 rfl ⟨by decide, B_53⟩ ⟨by exact gz_m 54 (by omega), by exact gz_m 55 (by omega)⟩ (gc_iI S_53 rfl) ?_
    show gv_X _ _ (51, [(4, .inl (I 54 (Int.toNat a2))), (3, .inl (I 54 (Int.toNat a1))), (0, .inr (.inr (some 61))), (1, .inl a1), (2, .inl a2)], [.inl (I 53 (Int.toNat a1))], sh, gc_h sh I J A)
    refine gv_run 1 true hD (pc' := 52) (lv' := [(4, .inl (I 54 (Int.toNat a2))), (3, .inl (I 54 (Int.toNat a1))), (0, .inr (.inr (some 61))), (1, .inl a1), (2, .inl a2)]) (st' := [.inr (.inr (some 61)), .inl (I 53 (Int.toNat a1))]) (h' := gc_h sh I J A) (C := (True ∧ True)) rfl ⟨trivial, trivial⟩ ?_
    refine gv_get hD rfl rfl S_61 ⟨by decide, B_61⟩ (gc_hA S_61 rfl A_61_1) ?_
    show gv_X _ _ (55, [(4, .inl (I 54 (Int.toNat a2))), (3, .inl (I 54 (Int.toNat a1))), (0, .inr (.inr (some 61))), (1, .inl a1), (2, .inl a2)], [.inr (.inr (some 48)), .inl (I 53 (Int.toNat a1))], sh, gc_h sh I J A)
    refine gv_get hD rfl rfl S_48 ⟨by decide, B_48⟩ (gc_hA S_48 rfl A_48_7) ?_
    show gv_X _ _ (58, [(4, .inl (I 54 (Int.toNat a2))), (3, .inl (I 54 (Int.toNat a1))), (0, .inr (.inr (some 61))), (1, .inl a1), (2, .inl a2)], [.inr (.inr (some 53)), .inl (I 53 (Int.toNat a1))], sh, gc_h sh I J A)
    refine gv_run 1 true hD (pc' := 59) (lv' := [(4, .inl (I 54 (Int.toNat a2))), (3, .inl (I 54 (Int.toNat a1))), (0, .inr (.inr (some 61))), (1, .inl a1), (2, .inl a2)]) (st' := [.inl a2, .inr (.inr (some 53)), .inl (I 53 (Int.toNat a1))]) (h' := gc_h sh I J A) (C := (True ∧ True)) rfl ⟨trivial, trivial⟩ ?_
    have f35 := (show 0 ≤ I 53 (Int.toNat a2) ∧ I 53 (Int.toNat a2) ≤ 2999 from gc_in hI R_53 rfl rfl)
    refine gv_iald hD rfl S_53 rfl ⟨by decide, B_53⟩ ⟨by exact gz_m 56 (by omega), by exact gz_m 57 (by omega)⟩ (gc_iI S_53 rfl) ?_
    show gv_X _ _ (60, [(4, .inl (I 54 (Int.toNat a2))), (3, .inl (I 54 (Int.toNat a1))), (0, .inr (.inr (some 61))), (1, .inl a1), (2, .inl a2)], [.inl (I 53 (Int.toNat a2)), .inl (I 53 (Int.toNat a1))], sh, gc_h sh I J A)
    refine gv_run 1 true hD (pc' := 61) (lv' := [(4, .inl (I 54 (Int.toNat a2))), (3, .inl (I 54 (Int.toNat a1))), (0, .inr (.inr (some 61))), (1, .inl a1), (2, .inl a2)]) (st' := [.inl ((I 53 (Int.toNat a1)) - (I 53 (Int.toNat a2)))]) (h' := gc_h sh I J A) (C := (True ∧ True)) rfl ⟨trivial, trivial⟩ ?_
    exact gv_iret hD rfl ⟨rfl, ⟨_, rfl, by exact gz_m 58 (by omega)⟩⟩
