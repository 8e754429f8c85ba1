/-! R: what the class and the reference have alike -/
def gs_T1 (i : Int) (t : Nat) (Ir : gr_I) (Jr : gr_J) (I : gr_I) (J : gr_J) : Prop := I (t + 1) 1 = Ir 13 (Int.toNat i) ∧ gs_NA (I (t + 1) 1) (J (t + 2)) (fun k => Jr 20 (Int.toNat (8 * i + (k : Int))))
def gs_VRi (i : Int) (Ir I : gr_I) (t : Nat) : Prop := ∀ k : Int, 0 ≤ k → k < I (t + 3) 1 → I (t + 5) (Int.toNat k) = Ir 24 (Int.toNat (48 * i + k)) ∧ I (t + 6) (Int.toNat k) = Ir 25 (Int.toNat (48 * i + k)) ∧ 1 ≤ I (t + 6) (Int.toNat k)
def gs_T3 (i : Int) (t : Nat) (Ir : gr_I) (Jr : gr_J) (I : gr_I) (J : gr_J) : Prop := (I (t + 3) 1 = Ir 14 (Int.toNat i) ∧ gs_NA (I (t + 3) 1) (J (t + 4)) (fun k => Jr 21 (Int.toNat (48 * i + (k : Int))))) ∧ gs_VRi i Ir I t
def gs_T7 (i : Int) (t : Nat) (Ir : gr_I) (Jr : gr_J) (I : gr_I) (J : gr_J) : Prop := I (t + 7) 1 = Ir 15 (Int.toNat i) ∧ gs_NA (I (t + 7) 1) (J (t + 8)) (fun k => Jr 22 (Int.toNat (16 * i + (k : Int))))
def gs_PTi (i : Int) (Ir I : gr_I) (t : Nat) : Prop := ∀ f : Int, 0 ≤ f → f < I (t + 11) 1 → I (t + 13) (Int.toNat f) = Ir 31 (Int.toNat (24 * i + f)) ∧ ∀ j : Nat, (j : Int) < I (t + 13) (Int.toNat f) → gs_PX (I (t + 14) (Int.toNat (72 * f) + 3 * j)) (Ir 32 (Int.toNat (24 * (24 * i + f) + (j : Int))))
def gs_TP (i : Int) (t : Nat) (Ir : gr_I) (Jr : gr_J) (I : gr_I) (J : gr_J) : Prop := (I (t + 11) 1 = Ir 17 (Int.toNat i) ∧ gs_NA (I (t + 11) 1) (J (t + 12)) (fun k => Jr 23 (Int.toNat (24 * i + (k : Int))))) ∧ gs_PTi i Ir I t
def gs_lfi (i : Int) (Ir : gr_I) (j : Nat) : Int := Ir 41 (Int.toNat (384 * i + (j : Int)))
def gs_TL (i : Int) (t : Nat) (Ir : gr_I) (I : gr_I) (A : gc_A) : Prop := I t 13 = Ir 19 (Int.toNat i) ∧ (∀ k q : Nat, (k : Int) < I t 13 → A (t + 16) k = some q → I q 1 = gs_lfi i Ir k) ∧ ((∀ x : Int, 0 ≤ x → gs_cf (gs_lfi i Ir) x (Int.toNat (I t 13)) ≤ 4) ∧ ∀ k : Nat, (k : Int) < I t 13 → 0 ≤ gs_lfi i Ir k ∧ gs_lfi i Ir k < 96)
/-- a TONGUE's tables -/
def gs_RT (i : Int) (t : Nat) (Ir : gr_I) (Jr : gr_J) (I : gr_I) (J : gr_J) (A : gc_A) : Prop := gs_T1 i t Ir Jr I J ∧ gs_T3 i t Ir Jr I J ∧ gs_T7 i t Ir Jr I J ∧ I t 6 = Ir 16 (Int.toNat i) ∧ gs_TP i t Ir Jr I J ∧ I t 11 = Ir 18 (Int.toNat i) ∧ gs_TL i t Ir I A
/-- NAMES that all share -/
def gs_GN (p row f : Nat) (I : gr_I) (J : gr_J) (Ir : gr_I) (Jr : gr_J) : Prop := I p 1 = Ir 0 f ∧ gs_NA (I p 1) (J (p + 1)) (Jr row)
def gs_GF (I : gr_I) (J : gr_J) (Ir : gr_I) (Jr : gr_J) : Prop := I 1 13 = Ir 0 5 ∧ gs_FA Ir Jr I J (I 1 13)
/-- what FUNS cost -/
def gs_FP (Ir I : gr_I) : Prop := ∀ k : Int, 0 ≤ k → k < I 4 1 → I 14 (Int.toNat k) = Ir 9 (Int.toNat k)
def gs_GK (I Ir : gr_I) : Prop := gs_AR Ir I ∧ gs_KA Ir I ∧ gs_ME Ir I ∧ gs_FP Ir I
def gs_G0 (Ir : gr_I) : Prop := ∀ i : Nat, Ir 0 1 ≤ (i : Int) → i < 8 → Ir 13 i = 0 ∧ Ir 14 i = 0 ∧ Ir 15 i = 0 ∧ Ir 16 i = 0 ∧ Ir 17 i = 0 ∧ Ir 18 i = 0 ∧ Ir 19 i = 0
def gs_R (I : gr_I) (J : gr_J) (A : gc_A) (Ir : gr_I) (Jr : gr_J) : Prop := gs_GN 2 2 2 I J Ir Jr ∧ gs_GN 4 3 3 I J Ir Jr ∧ gs_GN 6 4 4 I J Ir Jr ∧ gs_GN 8 1 1 I J Ir Jr ∧ gs_GF I J Ir Jr ∧ gs_GK I Ir ∧ I 1 5 = Ir 0 6 ∧ (∀ i t : Nat, (i : Int) < I 8 1 → A 10 i = some t → gs_RT (i : Int) t Ir Jr I J A) ∧ gs_G0 Ir
/-! frames, of both sides -/
section FR
variable {i : Int} {t : Nat} {Ir Irₚ : gr_I} {Jr Jrₚ : gr_J} {I Iₚ : gr_I} {J Jₚ : gr_J} {A Aₚ : gc_A}
theorem gs_NA_2 {n n' : Int} {f f' g gₚ : Nat → Int64} (h : gs_NA n f g) (e : n' ≤ n) (r : ∀ k : Nat, (k : Int) < n' → f' k = f k) (s : ∀ k : Nat, (k : Int) < n' → gₚ k = g k) : gs_NA n' f' gₚ := fun k hk => by
  rw [r k hk, s k hk]
  exact h k (by omega)
theorem gs_NA_p2 {n : Int} {f f' g gₚ : Nat → Int64} {w v : Int64} (h : gs_NA n f g) (h0 : 0 ≤ n) (a : f' (Int.toNat n) = w) (b : gₚ (Int.toNat n) = v) (al : gs_al w v) (r : ∀ k : Nat, (k : Int) < n → f' k = f k) (s : ∀ k : Nat, (k : Int) < n → gₚ k = g k) : gs_NA (n + 1) f' gₚ := fun k hk => by
  by_cases c : (k : Int) < n
  · rw [r k c, s k c]
    exact h k c
  · rw [show k = Int.toNat n from by omega, a, b]
    exact al
theorem gs_T1_fr (h : gs_T1 i t Ir Jr I J) (c : Iₚ (t + 1) 1 = I (t + 1) 1) (j : ∀ k, Jₚ (t + 2) k = J (t + 2) k) (r : Irₚ 13 (Int.toNat i) = Ir 13 (Int.toNat i)) (g : ∀ k : Nat, (k : Int) < I (t + 1) 1 → Jrₚ 20 (Int.toNat (8 * i + (k : Int))) = Jr 20 (Int.toNat (8 * i + (k : Int)))) : gs_T1 i t Irₚ Jrₚ Iₚ Jₚ := ⟨c.trans (h.1.trans r.symm), gs_NA_2 h.2 (by omega) (fun k _ => j k) (fun k hk => g k (by omega))⟩
theorem gs_T7_fr (h : gs_T7 i t Ir Jr I J) (c : Iₚ (t + 7) 1 = I (t + 7) 1) (j : ∀ k, Jₚ (t + 8) k = J (t + 8) k) (r : Irₚ 15 (Int.toNat i) = Ir 15 (Int.toNat i)) (g : ∀ k : Nat, (k : Int) < I (t + 7) 1 → Jrₚ 22 (Int.toNat (16 * i + (k : Int))) = Jr 22 (Int.toNat (16 * i + (k : Int)))) : gs_T7 i t Irₚ Jrₚ Iₚ Jₚ := ⟨c.trans (h.1.trans r.symm), gs_NA_2 h.2 (by omega) (fun k _ => j k) (fun k hk => g k (by omega))⟩
theorem gs_T3_fr (h : gs_T3 i t Ir Jr I J) (c : Iₚ (t + 3) 1 = I (t + 3) 1) (j : ∀ k, Jₚ (t + 4) k = J (t + 4) k) (c5 : ∀ k, Iₚ (t + 5) k = I (t + 5) k) (c6 : ∀ k, Iₚ (t + 6) k = I (t + 6) k) (r : Irₚ 14 (Int.toNat i) = Ir 14 (Int.toNat i)) (g : ∀ k : Int, 0 ≤ k → k < I (t + 3) 1 → Jrₚ 21 (Int.toNat (48 * i + k)) = Jr 21 (Int.toNat (48 * i + k)) ∧ Irₚ 24 (Int.toNat (48 * i + k)) = Ir 24 (Int.toNat (48 * i + k)) ∧ Irₚ 25 (Int.toNat (48 * i + k)) = Ir 25 (Int.toNat (48 * i + k))) : gs_T3 i t Irₚ Jrₚ Iₚ Jₚ := by
  refine ⟨⟨c.trans (h.1.1.trans r.symm), gs_NA_2 h.1.2 (by omega) (fun k _ => j k) (fun k hk => (g k (by omega) (by omega)).1)⟩, fun k k0 k1 => ?_⟩
  have e := h.2 k k0 (by omega)
  have e2 := g k k0 (by omega)
  rw [c5, c6, e2.2.1, e2.2.2]
  exact e
theorem gs_TP_fr (h : gs_TP i t Ir Jr I J) (c : Iₚ (t + 11) 1 = I (t + 11) 1) (j : ∀ k, Jₚ (t + 12) k = J (t + 12) k) (c5 : ∀ k, Iₚ (t + 13) k = I (t + 13) k) (c6 : ∀ k, Iₚ (t + 14) k = I (t + 14) k) (r : Irₚ 17 (Int.toNat i) = Ir 17 (Int.toNat i)) (g : ∀ k : Int, 0 ≤ k → k < I (t + 11) 1 → Jrₚ 23 (Int.toNat (24 * i + k)) = Jr 23 (Int.toNat (24 * i + k)) ∧ Irₚ 31 (Int.toNat (24 * i + k)) = Ir 31 (Int.toNat (24 * i + k)) ∧ ∀ j : Nat, (j : Int) < I (t + 13) (Int.toNat k) → Irₚ 32 (Int.toNat (24 * (24 * i + k) + (j : Int))) = Ir 32 (Int.toNat (24 * (24 * i + k) + (j : Int)))) : gs_TP i t Irₚ Jrₚ Iₚ Jₚ := by
  refine ⟨⟨c.trans (h.1.1.trans r.symm), gs_NA_2 h.1.2 (by omega) (fun k _ => j k) (fun k hk => (g k (by omega) (by omega)).1)⟩, fun k k0 k1 => ?_⟩
  have e := h.2 k k0 (by omega)
  have e2 := g k k0 (by omega)
  refine ⟨(c5 _).trans (e.1.trans e2.2.1.symm), fun j9 hj => ?_⟩
  rw [c5] at hj
  rw [c6, e2.2.2 j9 hj]
  exact e.2 j9 hj
theorem gs_cf_m {g gₚ : Nat → Int} {x : Int} : ∀ n : Nat, (∀ k : Nat, k < n → gₚ k = g k) → gs_cf gₚ x n = gs_cf g x n
  | 0, _ => rfl
  | n + 1, h => by
    show gs_cf gₚ x n + (if gₚ n = x then 1 else 0) = gs_cf g x n + (if g n = x then 1 else 0)
    rw [gs_cf_m n (fun k hk => h k (by omega)), h n (by omega)]
set_option maxHeartbeats 8000000 in
theorem gs_cf_le {g : Nat → Int} {x : Int} {m : Nat} : ∀ n : Nat, m ≤ n → gs_cf g x m ≤ gs_cf g x n
  | 0, h => by
    rw [show m = 0 from by exact gz_m 0 (by omega)]
    exact Int.le_refl _
  | n + 1, h => by
    by_cases c : m = n + 1
    · rw [c]
      exact Int.le_refl _
    · have a := gs_cf_le (g := g) (x := x) (m := m) n (by exact gz_m 1 (by omega))
      show gs_cf g x m ≤ gs_cf g x n + (if g n = x then 1 else 0)
      by_cases d : g n = x
      · rw [if_pos d]
        exact gz_m 2 (by omega)
      · rw [if_neg d]
        exact gz_m 3 (by omega)
theorem gs_TL_fr (h : gs_TL i t Ir I A) (c : Iₚ t 13 = I t 13) (a : ∀ k q : Nat, (k : Int) < I t 13 → Aₚ (t + 16) k = some q → A (t + 16) k = some q ∧ Iₚ q 1 = I q 1) (r : Irₚ 19 (Int.toNat i) = Ir 19 (Int.toNat i)) (g : ∀ k : Nat, (k : Int) < I t 13 → Irₚ 41 (Int.toNat (384 * i + (k : Int))) = Ir 41 (Int.toNat (384 * i + (k : Int)))) : gs_TL i t Irₚ Iₚ Aₚ := by
  refine ⟨c.trans (h.1.trans r.symm), fun k q hk hA => ?_, fun x hx => ?_, fun k hk => ?_⟩
  · have e := a k q (by omega) hA
    rw [e.2, h.2.1 k q (by omega) e.1]
    exact (g k (by omega)).symm
  · rw [c, gs_cf_m (g := gs_lfi i Ir) (gₚ := gs_lfi i Irₚ) _ (fun k hk => g k (by omega))]
    exact h.2.2.1 x hx
  · have e := h.2.2.2 k (by omega)
    unfold gs_lfi at e ⊢
    rw [g k (by omega)]
    exact e
theorem gs_GN_fr {p row f : Nat} (h : gs_GN p row f I J Ir Jr) (c : Iₚ p 1 = I p 1) (j : ∀ k, Jₚ (p + 1) k = J (p + 1) k) (r : Irₚ 0 f = Ir 0 f) (g : ∀ k, Jrₚ row k = Jr row k) : gs_GN p row f Iₚ Jₚ Irₚ Jrₚ := ⟨c.trans (h.1.trans r.symm), gs_NA_2 h.2 (by omega) (fun k _ => j k) (fun k _ => g k)⟩
theorem gs_GF_fr (h : gs_GF I J Ir Jr) (c : Iₚ 1 13 = I 1 13) (j : ∀ k, Jₚ 18 k = J 18 k) (k9 : ∀ k, Iₚ 19 k = I 19 k) (r : Irₚ 0 5 = Ir 0 5) (g : ∀ k, Jrₚ 5 k = Jr 5 k ∧ Irₚ 11 k = Ir 11 k ∧ Irₚ 12 k = Ir 12 k) : gs_GF Iₚ Jₚ Irₚ Jrₚ := by
  refine ⟨c.trans (h.1.trans r.symm), fun k hk => ?_⟩
  rw [j, k9, k9, (g k).1, (g k).2.1, (g k).2.2]
  exact h.2 k (by omega)
theorem gs_GK_fr (h : gs_GK I Ir) (c : Iₚ 4 1 = I 4 1) (r11 : ∀ k, Iₚ 11 k = I 11 k) (r12 : ∀ k, Iₚ 12 k = I 12 k) (r13 : ∀ k, Iₚ 13 k = I 13 k) (r15 : ∀ k, Iₚ 15 k = I 15 k) (g : ∀ k, Irₚ 6 k = Ir 6 k ∧ Irₚ 7 k = Ir 7 k ∧ Irₚ 8 k = Ir 8 k ∧ Irₚ 10 k = Ir 10 k) (r14 : ∀ k, Iₚ 14 k = I 14 k) (g9 : ∀ k, Irₚ 9 k = Ir 9 k) : gs_GK Iₚ Irₚ := by
  refine ⟨fun k h0 h1 => ?_, fun f h0 h1 => ⟨?_, fun j j0 j1 => ?_⟩, fun f h0 h1 => ?_, fun f h0 h1 => by rw [r14, g9]; exact h.2.2.2 f h0 (by omega)⟩
  · rw [r12, (g _).1]
    exact h.1 k h0 (by omega)
  · rw [r11, (g _).2.2.1]
    exact (h.2.1 f h0 (by omega)).1
  · rw [r12] at j1
    rw [r13, (g _).2.1]
    exact (h.2.1 f h0 (by omega)).2 j j0 j1
  · rw [r15, (g _).2.2.2]
    exact h.2.2.1 f h0 (by omega)
theorem gs_G0_fr (h : gs_G0 Ir) (e : Ir 0 1 ≤ Irₚ 0 1) (g : ∀ i : Nat, Irₚ 0 1 ≤ (i : Int) → i < 8 → Irₚ 13 i = Ir 13 i ∧ Irₚ 14 i = Ir 14 i ∧ Irₚ 15 i = Ir 15 i ∧ Irₚ 16 i = Ir 16 i ∧ Irₚ 17 i = Ir 17 i ∧ Irₚ 18 i = Ir 18 i ∧ Irₚ 19 i = Ir 19 i) : gs_G0 Irₚ := fun i h0 h1 => by
  obtain ⟨a, b, c, d, f, p, q⟩ := g i h0 h1
  rw [a, b, c, d, f, p, q]
  exact h i (by omega) h1
end FR
/-- the class's cells of a TONGUE stay -/
def gs_cT (t : Nat) (I : gr_I) (J : gr_J) (A : gc_A) (Iₚ : gr_I) (Jₚ : gr_J) (Aₚ : gc_A) : Prop := (Iₚ (t + 1) 1 = I (t + 1) 1 ∧ ∀ k, Jₚ (t + 2) k = J (t + 2) k) ∧ (Iₚ (t + 3) 1 = I (t + 3) 1 ∧ (∀ k, Jₚ (t + 4) k = J (t + 4) k) ∧ (∀ k, Iₚ (t + 5) k = I (t + 5) k) ∧ ∀ k, Iₚ (t + 6) k = I (t + 6) k) ∧ (Iₚ (t + 7) 1 = I (t + 7) 1 ∧ ∀ k, Jₚ (t + 8) k = J (t + 8) k) ∧ Iₚ t 6 = I t 6 ∧ (Iₚ (t + 11) 1 = I (t + 11) 1 ∧ (∀ k, Jₚ (t + 12) k = J (t + 12) k) ∧ (∀ k, Iₚ (t + 13) k = I (t + 13) k) ∧ ∀ k, Iₚ (t + 14) k = I (t + 14) k) ∧ Iₚ t 11 = I t 11 ∧ (Iₚ t 13 = I t 13 ∧ ∀ k q : Nat, (k : Int) < I t 13 → Aₚ (t + 16) k = some q → A (t + 16) k = some q ∧ Iₚ q 1 = I q 1)
/-- the reference's rows of TONGUES stay -/
def gs_rA (Ir : gr_I) (Jr : gr_J) (Irₚ : gr_I) (Jrₚ : gr_J) : Prop := (∀ k, Irₚ 13 k = Ir 13 k ∧ Irₚ 14 k = Ir 14 k ∧ Irₚ 15 k = Ir 15 k ∧ Irₚ 16 k = Ir 16 k ∧ Irₚ 17 k = Ir 17 k ∧ Irₚ 18 k = Ir 18 k ∧ Irₚ 19 k = Ir 19 k) ∧ (∀ k, Irₚ 24 k = Ir 24 k ∧ Irₚ 25 k = Ir 25 k ∧ Irₚ 31 k = Ir 31 k ∧ Irₚ 32 k = Ir 32 k ∧ Irₚ 41 k = Ir 41 k) ∧ ∀ k, Jrₚ 20 k = Jr 20 k ∧ Jrₚ 21 k = Jr 21 k ∧ Jrₚ 22 k = Jr 22 k ∧ Jrₚ 23 k = Jr 23 k
theorem gs_RT_fr {i : Int} {t : Nat} {Ir Irₚ : gr_I} {Jr Jrₚ : gr_J} {I Iₚ : gr_I} {J Jₚ : gr_J} {A Aₚ : gc_A} (h : gs_RT i t Ir Jr I J A) (c : gs_cT t I J A Iₚ Jₚ Aₚ) (r : gs_rA Ir Jr Irₚ Jrₚ) : gs_RT i t Irₚ Jrₚ Iₚ Jₚ Aₚ := by
  obtain ⟨h1, h3, h7, hs, hp, hw, hl⟩ := h
  obtain ⟨⟨c1, c2⟩, ⟨c3, c4, c5, c6⟩, ⟨c7, c8⟩, c9, ⟨d1, d2, d3, d4⟩, d5, d6, d7⟩ := c
  obtain ⟨ra, rb, rc⟩ := r
  have a := ra (Int.toNat i)
  exact ⟨gs_T1_fr h1 c1 c2 a.1 (fun k _ => (rc _).1), gs_T3_fr h3 c3 c4 c5 c6 a.2.1 (fun k _ _ => ⟨(rc _).2.1, (rb _).1, (rb _).2.1⟩), gs_T7_fr h7 c7 c8 a.2.2.1 (fun k _ => (rc _).2.2.1), c9.trans (hs.trans a.2.2.2.1.symm), gs_TP_fr hp d1 d2 d3 d4 a.2.2.2.2.1 (fun k _ _ => ⟨(rc _).2.2.2, (rb _).2.2.1, fun j _ => (rb _).2.2.2.1⟩), d5.trans (hw.trans a.2.2.2.2.2.1.symm), gs_TL_fr hl d6 d7 a.2.2.2.2.2.2 (fun k _ => (rb _).2.2.2.2)⟩
/-- which rows stay, out of what a statement's mask leaves -/
theorem gs_rA_ts {m : List Nat} {Ir Irₚ : gr_I} {Jr Jrₚ : gr_J} (h : gs_TsX m Ir Jr Irₚ Jrₚ) (c : ([13, 14, 15, 16, 17, 18, 19, 24, 25, 31, 32, 41].all (fun a => !(m.elem a)) && [1020, 1021, 1022, 1023].all (fun a => !(m.elem a))) = true) : gs_rA Ir Jr Irₚ Jrₚ := by
  simp only [List.all_cons, List.all_nil, Bool.and_true, Bool.and_eq_true, Bool.not_eq_true'] at c
  obtain ⟨⟨c1, c2, c3, c4, c5, c6, c7, c8, c9, d1, d2, d3⟩, e1, e2, e3, e4⟩ := c
  exact ⟨fun k => ⟨h.2.1 13 rfl c1 k, h.2.1 14 rfl c2 k, h.2.1 15 rfl c3 k, h.2.1 16 rfl c4 k, h.2.1 17 rfl c5 k, h.2.1 18 rfl c6 k, h.2.1 19 rfl c7 k⟩, fun k => ⟨h.2.1 24 rfl c8 k, h.2.1 25 rfl c9 k, h.2.1 31 rfl d1 k, h.2.1 32 rfl d2 k, h.2.1 41 rfl d3 k⟩, fun k => ⟨h.2.2 20 rfl e1 k, h.2.2 21 rfl e2 k, h.2.2 22 rfl e3 k, h.2.2 23 rfl e4 k⟩⟩
