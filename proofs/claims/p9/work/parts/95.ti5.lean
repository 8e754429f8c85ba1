/-- one pack of VALUES, on both sides -/
def gs_PX (a b : Int) : Prop := ∃ i, gs_PV a b i
theorem gs_PX_eq {a b a' b' : Int} (h : gs_PX a b) (hₚ : gs_PX a' b') : a = a' ↔ b = b' := by
  obtain ⟨i, h⟩ := h
  obtain ⟨j, hₚ⟩ := hₚ
  exact gs_PV_eq h hₚ
/-! WORDS of the class: row 41, then (t + 15) -/
section D9
variable {β : Int → Int} {N p q : Int} {I0 I I1 I2 I3 Iₚ Ir : gr_I} {J Jₚ Jr : gr_J} {t : Nat} {n : Int} {f f' : Nat → Int}
theorem gs_lec_ix {w : Int × (Int → Int)} {c d : Nat} (h : gs_lec I f c w) (e : d = c) : gs_lec I f d w := by
  rw [e]
  exact h
/-- stems are read: n so far -/
def gs_k2 (β : Int → Int) (N : Int) (I : gr_I) (p : Int) (I1 : gr_I) (n q : Int) : Prop := (∀ k : Nat, (k : Int) < n → gs_lec I1 (I1 41) (5 + 2 * k) (gs_tl β N (gs_sp β N k p))) ∧ q = gs_sp β N (Int.toNat n) p ∧ gs_smn β N 3 p = gs_smn β N (Int.toNat (3 - n)) q + Int.toNat n ∧ ∀ j : Nat, j < 4 → I1 41 j = I 41 j
theorem gs_k2_0 : gs_k2 β N I p I 0 p := ⟨fun k h => absurd h (by omega), rfl, rfl, fun _ _ => rfl⟩
theorem gs_k2_s {L : Int} (h : gs_k2 β N I p I1 n q) (hn : 0 ≤ n ∧ n < 3) (hT : gs_T β N q = 3) (l : gc_PKs I1 I2) (o : ∀ j : Nat, ¬ j = 5 + 2 * Int.toNat n → ¬ j = 6 + 2 * Int.toNat n → I2 41 j = I1 41 j) (le : gs_lec I2 (I2 41) (5 + 2 * Int.toNat n) (gs_tl β N q)) (hq : L = gs_X β N q) : gs_k2 β N I p I2 (n + 1) L := by
  subst hq
  obtain ⟨h1, h2, h3, h4⟩ := h
  refine ⟨fun k hk => ?_, ?_, ?_, fun j hj => (o j (by omega) (by omega)).trans (h4 j hj)⟩
  · by_cases c : (k : Int) = n
    · rw [show k = Int.toNat n from by omega, ← h2]
      exact le
    · exact gs_lec_kp (h1 k (by omega)) l (o _ (by omega) (by omega)) (o _ (by omega) (by omega))
  · rw [show Int.toNat (n + 1) = Int.toNat n + 1 from by omega]
    show gs_X β N q = gs_X β N (gs_sp β N (Int.toNat n) p)
    rw [h2]
  · rw [h3, show Int.toNat (3 - n) = Int.toNat (3 - (n + 1)) + 1 from by omega]
    show (if _ then _ else _) + _ = _
    rw [if_pos hT]
    omega
/-- the stems stand in a row -/
def gs_ws9 (β : Int → Int) (N : Int) (p : Int) (I1 : gr_I) (f : Nat → Int) : Prop := f 4 = ((gs_smn β N 3 p : Nat) : Int) ∧ ∀ k : Nat, k < gs_smn β N 3 p → gs_lec I1 f (5 + 2 * k) (gs_tl β N (gs_sp β N k p))
theorem gs_ws9_mk (h : gs_k2 β N I p I1 n q) (hn : 0 ≤ n ∧ n ≤ 3) (he : ¬ gs_T β N q = 3 ∨ 3 ≤ n) (p4 : ∀ b j, ¬ (b = 41 ∧ j = 4) → I2 b j = I1 b j) (q4 : I2 41 4 = n) : gs_ws9 β N p I2 (I2 41) ∧ (∀ j : Nat, j < 4 → I2 41 j = I 41 j) ∧ q = gs_stm β N 3 p := by
  obtain ⟨h1, h2, h3, h4⟩ := h
  rw [gs_smn_e he] at h3
  have l : gc_PKs I1 I2 := gc_PKs_fr gc_PKs_rf (p4 1 17 (fun h => absurd h.1 (by first | exact gz_ne rfl | decide))) (fun k => p4 20 k (fun h => absurd h.1 (by first | exact gz_ne rfl | decide)))
  refine ⟨⟨by rw [q4]; omega, fun k hk => gs_lec_kp (h1 k (by omega)) l (p4 41 _ (fun h => by have := h.2; omega)) (p4 41 _ (fun h => by have := h.2; omega))⟩, fun j hj => (p4 41 j (fun h => by have := h.2; omega)).trans (h4 j hj), ?_⟩
  rw [gs_stm_sp, h3, h2, show 0 + Int.toNat n = Int.toNat n from by omega]
theorem gs_ws9_kp (h : gs_ws9 β N p I1 f) (l : gc_PKs I1 I2) (e : ∀ j, 4 ≤ j → j < 11 → f' j = f j) : gs_ws9 β N p I2 f' := ⟨(e 4 (by decide) (by decide)).trans h.1, fun k hk => by
  have := gs_smn_3 (β := β) (N := N) 3 p
  exact gs_lec_kp (h.2 k hk) l (e _ (by omega) (by omega)) (e _ (by omega) (by omega))⟩
/-- the WORD's row -/
def gs_k7 (β : Int → Int) (N : Int) (Ir : gr_I) (Jr : gr_J) (p : Int) (I1 : gr_I) (f : Nat → Int) : Prop := (f 0 = gs_lk Ir Jr 3 3 (gs_rn β N p) ∧ f 1 = gs_wpt β N Ir Jr p ∧ gs_PX (f 2) (gs_wvl β N Ir Jr (gs_stm β N 3 (gs_X β N (gs_X β N p)))) ∧ f 3 = gs_prc β N (gs_wve β N Ir Jr (gs_stm β N 3 (gs_X β N (gs_X β N p))))) ∧ gs_ws9 β N (gs_X β N (gs_X β N p)) I1 f
theorem gs_k7_kp (h : gs_k7 β N Ir Jr p I1 f) (l : gc_PKs I1 I2) (e : ∀ j, j < 11 → f' j = f j) : gs_k7 β N Ir Jr p I2 f' := by
  obtain ⟨⟨a, b, c, d⟩, w⟩ := h
  exact ⟨⟨(e 0 (by decide)).trans a, (e 1 (by decide)).trans b, by rw [e 2 (by decide)]; exact c, (e 3 (by decide)).trans d⟩, gs_ws9_kp w l (fun j _ h => e j h)⟩
/-- what readWord() leaves -/
def gs_Cwd (β : Int → Int) (N : Int) (Ir : gr_I) (Jr : gr_J) (I : gr_I) (t : Nat) (p : Int) (Iₚ : gr_I) : Prop := gs_k7 β N Ir Jr p Iₚ (fun k => Iₚ (t + 15) (Int.toNat (11 * I t 11) + k)) ∧ ∀ j : Nat, ¬ (Int.toNat (11 * I t 11) ≤ j ∧ j < Int.toNat (11 * I t 11) + 11) → Iₚ (t + 15) j = I (t + 15) j
end D9
