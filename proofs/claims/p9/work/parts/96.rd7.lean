/-! WORDS and PATTERNS alike on both sides (p9 to p13) -/
def fo_sc (P : Nat → Int) (f : Nat → Int) (k : Nat) : fo_c := if f 4 ≤ (k : Int) then none else some (f (6 + 2 * k), so_cut (f (6 + 2 * k)) (fun i => P (Int.toNat (f (5 + 2 * k) + i))))
def fo_sr (Λ : Nat → Int) (x : Int) : fo_c := if x < 0 then none else some (so_n x, so_cut (so_n x) (fun i => Λ (Int.toNat (so_o x + i))))
def fo_okf (m : Int) (f : Nat → Int) : Prop := (0 ≤ f 4 ∧ f 4 ≤ 3) ∧ ∀ k : Nat, (k : Int) < f 4 → (0 ≤ f (5 + 2 * k) ∧ 0 ≤ f (6 + 2 * k)) ∧ f (5 + 2 * k) + f (6 + 2 * k) ≤ m
def fo_okx (n x : Int) : Prop := x < 0 ∨ ((0 ≤ x ∧ x ≤ 65535) ∧ x / 16 + x % 16 ≤ n)
def gs_fw (I : gr_I) (t : Nat) (w : Int) (k : Nat) : Int := I (t + 15) (Int.toNat (11 * w) + k)
def gs_xw (Ir : gr_I) (i w : Int) (k : Nat) : Int := Ir 38 (Int.toNat (3 * (64 * i + w) + (k : Int)))
/-- a WORD on both sides -/
def gs_WA9 (i : Int) (t : Nat) (Ir I : gr_I) (w : Int) : Prop :=
  (gs_fw I t w 0 = Ir 36 (Int.toNat (64 * i + w)) ∧ gs_fw I t w 1 = Ir 37 (Int.toNat (64 * i + w)) ∧ gs_PX (gs_fw I t w 2) (Ir 39 (Int.toNat (64 * i + w))) ∧ gs_fw I t w 3 = Ir 40 (Int.toNat (64 * i + w))) ∧ (∀ k : Nat, k < 3 → fo_sc (I 20) (gs_fw I t w) k = fo_sr (Ir 51) (gs_xw Ir i w k)) ∧ fo_okf (I 1 17) (gs_fw I t w) ∧ (∀ k : Nat, k < 3 → fo_okx (Ir 0 59) (gs_xw Ir i w k)) ∧ (0 ≤ Ir 36 (Int.toNat (64 * i + w)) ∧ Ir 36 (Int.toNat (64 * i + w)) < Ir 0 3) ∧ 0 ≤ Ir 37 (Int.toNat (64 * i + w)) ∧ Ir 37 (Int.toNat (64 * i + w)) < Ir 17 (Int.toNat i)
/-- the CELLS of a PATTERN on both sides -/
def gs_CA9 (i : Int) (t : Nat) (Ir I : gr_I) (f : Int) : Prop := ∀ j : Nat, (j : Int) < I (t + 13) (Int.toNat f) → fo_kx (I 20) (I (t + 14) (Int.toNat (72 * f) + 3 * j + 1)) (I (t + 14) (Int.toNat (72 * f) + 3 * j + 2)) = (gs_de9 Ir (24 * (24 * i + f)) j).2 ∧ fo_okk (I 1 17) (I (t + 14) (Int.toNat (72 * f) + 3 * j + 1)) (I (t + 14) (Int.toNat (72 * f) + 3 * j + 2))
def gs_RWt (i : Int) (t : Nat) (Ir I : gr_I) : Prop := (∀ f : Int, 0 ≤ f → f < I (t + 11) 1 → gs_CA9 i t Ir I f) ∧ ∀ w : Int, 0 ≤ w → w < I t 11 → gs_WA9 i t Ir I w
def gs_RW (I : gr_I) (A : gc_A) (Ir : gr_I) : Prop := gs_PDa Ir ∧ ∀ i t : Nat, (i : Int) < I 8 1 → A 10 i = some t → gs_RWt (i : Int) t Ir I
section RW9
variable {β : Int → Int} {η p i w : Int} {t : Nat} {I Iₚ I0 Ir Irₚ Ir0 : gr_I} {J Jₚ Jr Jrₚ : gr_J} {A Aₚ A0 : gc_A} {f f' P P' Λ Λ' : Nat → Int} {n n' m m' x : Int}
theorem fo_sc_kp {k : Nat} (h : fo_okf m f) (hk : k < 3) (l : ∀ j : Nat, (j : Int) < m → P' j = P j) (e : ∀ j, j < 11 → f' j = f j) : fo_sc P' f' k = fo_sc P f k := by
  unfold fo_sc
  rw [e 4 (by decide)]
  by_cases c : f 4 ≤ (k : Int)
  · rw [if_pos c, if_pos c]
  · rw [if_neg c, if_neg c, e (6 + 2 * k) (by omega), e (5 + 2 * k) (by omega)]
    have o := h.2 k (by omega)
    exact congrArg (fun g => some (f (6 + 2 * k), g)) (so_cut_eq (fun i a b => l _ (by omega)))
theorem fo_okf_kp (h : fo_okf m f) (hm : m ≤ m') (e : ∀ j, j < 11 → f' j = f j) : fo_okf m' f' := by
  have b := h.1
  refine ⟨by rw [e 4 (by decide)]; exact h.1, fun k hk => ?_⟩
  rw [e 4 (by decide)] at hk
  rw [e (5 + 2 * k) (by omega), e (6 + 2 * k) (by omega)]
  have o := h.2 k hk
  exact ⟨o.1, by omega⟩
theorem fo_sr_kp (h : fo_okx n x) (l : ∀ j : Nat, (j : Int) < n → Λ' j = Λ j) : fo_sr Λ' x = fo_sr Λ x := by
  unfold fo_sr
  by_cases c : x < 0
  · rw [if_pos c, if_pos c]
  · rw [if_neg c, if_neg c]
    have o := h.resolve_left c
    rw [so_nv o.1, so_ov o.1]
    exact congrArg (fun g => some (x % 16, g)) (so_cut_eq (fun i a b => l _ (by omega)))
theorem fo_okx_kp (h : fo_okx n x) (hn : n ≤ n') : fo_okx n' x := by
  rcases h with h | h
  · exact Or.inl h
  · exact Or.inr ⟨h.1, by omega⟩
/-- both sides keep what they have of a TONGUE -/
def gs_kD (t : Nat) (I Iₚ : gr_I) : Prop := (I (t + 11) 1 ≤ Iₚ (t + 11) 1 ∧ (∀ k : Nat, (k : Int) < I (t + 11) 1 → Iₚ (t + 13) k = I (t + 13) k) ∧ ∀ k : Nat, (k : Int) < 72 * I (t + 11) 1 → Iₚ (t + 14) k = I (t + 14) k) ∧ ∀ k : Nat, (k : Int) < 11 * I t 11 → Iₚ (t + 15) k = I (t + 15) k
def gs_kE (i : Int) (Ir Irₚ : gr_I) : Prop := (Ir 17 (Int.toNat i) ≤ Irₚ 17 (Int.toNat i) ∧ (∀ f : Int, 0 ≤ f → f < Ir 17 (Int.toNat i) → Irₚ 31 (Int.toNat (24 * i + f)) = Ir 31 (Int.toNat (24 * i + f))) ∧ ∀ f : Int, 0 ≤ f → f < Ir 17 (Int.toNat i) → ∀ j : Int, 0 ≤ j → j < 24 → Irₚ 32 (Int.toNat (24 * (24 * i + f) + j)) = Ir 32 (Int.toNat (24 * (24 * i + f) + j)) ∧ Irₚ 33 (Int.toNat (24 * (24 * i + f) + j)) = Ir 33 (Int.toNat (24 * (24 * i + f) + j)) ∧ Irₚ 34 (Int.toNat (24 * (24 * i + f) + j)) = Ir 34 (Int.toNat (24 * (24 * i + f) + j))) ∧ ∀ w : Int, 0 ≤ w → w < Ir 18 (Int.toNat i) → ((Irₚ 36 (Int.toNat (64 * i + w)) = Ir 36 (Int.toNat (64 * i + w)) ∧ Irₚ 37 (Int.toNat (64 * i + w)) = Ir 37 (Int.toNat (64 * i + w))) ∧ (Irₚ 39 (Int.toNat (64 * i + w)) = Ir 39 (Int.toNat (64 * i + w)) ∧ Irₚ 40 (Int.toNat (64 * i + w)) = Ir 40 (Int.toNat (64 * i + w)))) ∧ ∀ k : Nat, k < 3 → gs_xw Irₚ i w k = gs_xw Ir i w k
theorem gs_WA9_kp (h : gs_WA9 i t Ir I w) (h0 : 0 ≤ w) (h1 : w < I t 11) (es : I t 11 = Ir 18 (Int.toNat i)) (lc : gc_PKs I Iₚ) (kc : gs_kD t I Iₚ) (lr : gr_LKs Ir Irₚ) (kr : gs_kE i Ir Irₚ) (e3 : Ir 0 3 ≤ Irₚ 0 3) : gs_WA9 i t Irₚ Iₚ w := by
  obtain ⟨⟨a0, a1, a2, a3⟩, b, c, d, g, k⟩ := h
  obtain ⟨⟨⟨r36, r37⟩, r39, r40⟩, r38⟩ := kr.2 w h0 (by omega)
  have ef : ∀ j, j < 11 → gs_fw Iₚ t w j = gs_fw I t w j := fun j hj => kc.2 _ (by omega)
  unfold gs_WA9
  rw [r36, r37, r39, r40, ef 0 (by decide), ef 1 (by decide), ef 2 (by decide), ef 3 (by decide)]
  refine ⟨⟨a0, a1, a2, a3⟩, fun k hk => ?_, fo_okf_kp c lc.1 ef, fun k hk => ?_, ⟨g.1, by omega⟩, k.1, by have := kr.1.1; omega⟩
  · rw [fo_sc_kp c hk lc.2 ef, b k hk, r38 k hk]
    exact (fo_sr_kp (d k hk) lr.2).symm
  · rw [r38 k hk]
    exact fo_okx_kp (d k hk) lr.1
theorem gs_CA9_kp {f : Int} (h : gs_CA9 i t Ir I f) (h0 : 0 ≤ f) (h1 : f < I (t + 11) 1) (ec : I (t + 11) 1 = Ir 17 (Int.toNat i)) (e13 : I (t + 13) (Int.toNat f) = Ir 31 (Int.toNat (24 * i + f))) (b24 : Ir 31 (Int.toNat (24 * i + f)) ≤ 24) (ok : gs_dok Ir (24 * (24 * i + f)) (Ir 31 (Int.toNat (24 * i + f)))) (lc : gc_PKs I Iₚ) (kc : gs_kD t I Iₚ) (lr : gr_LKs Ir Irₚ) (lp : gr_PTs Ir Irₚ) (kr : gs_kE i Ir Irₚ) : gs_CA9 i t Irₚ Iₚ f := by
  intro j hj
  rw [kc.1.2.1 _ (by omega)] at hj
  obtain ⟨a, b⟩ := h j hj
  have o := ok (j : Int) (by omega) (by omega)
  obtain ⟨_, r33, r34⟩ := kr.1.2.2 f h0 (by omega) (j : Int) (by omega) (by omega)
  rw [kc.1.2.2 (Int.toNat (72 * f) + 3 * j + 1) (by omega), kc.1.2.2 (Int.toNat (72 * f) + 3 * j + 2) (by omega)]
  refine ⟨(fo_kx_kp b lc.2).trans (a.trans ?_), fo_okk_kp b lc.1⟩
  show fo_rx (Ir 51) (Ir 35) _ _ = fo_rx (Irₚ 51) (Irₚ 35) _ _
  rw [r33, r34]
  exact (fo_rx_kp o lr.2 lp.2).symm
/-- what a statement does to them -/
def gs_cD (t : Nat) (I Iₚ : gr_I) : Prop := (Iₚ (t + 11) 1 = I (t + 11) 1 ∧ (∀ k, Iₚ (t + 13) k = I (t + 13) k) ∧ ∀ k, Iₚ (t + 14) k = I (t + 14) k) ∧ Iₚ t 11 = I t 11 ∧ ∀ k, Iₚ (t + 15) k = I (t + 15) k
def gs_c86 (β : Int → Int) (η p : Int) (Ir : gr_I) (Jr : gr_J) (I : gr_I) (t : Nat) (Iₚ : gr_I) : Prop := (Iₚ (t + 11) 1 = I (t + 11) 1 + 1 ∧ (∀ j, ¬ j = Int.toNat (I (t + 11) 1) → Iₚ (t + 13) j = I (t + 13) j) ∧ (∀ j : Nat, j < 72 * Int.toNat (I (t + 11) 1) → Iₚ (t + 14) j = I (t + 14) j) ∧ Iₚ (t + 13) (Int.toNat (I (t + 11) 1)) = (((gs_ptw β η Ir Jr (gs_X β η p)).2.length : Nat) : Int) ∧ gs_Cct (gs_qtw β η Ir Jr (gs_X β η p)).2 t I Iₚ) ∧ Iₚ t 11 = I t 11 ∧ ∀ k, Iₚ (t + 15) k = I (t + 15) k
def gs_c87 (β : Int → Int) (η p : Int) (Ir : gr_I) (Jr : gr_J) (I : gr_I) (t : Nat) (Iₚ : gr_I) : Prop := (Iₚ (t + 11) 1 = I (t + 11) 1 ∧ (∀ k, Iₚ (t + 13) k = I (t + 13) k) ∧ ∀ k, Iₚ (t + 14) k = I (t + 14) k) ∧ Iₚ t 11 = I t 11 + 1 ∧ gs_Cwd β η Ir Jr I t (gs_X β η p) Iₚ
def gs_SD (β : Int → Int) (η p : Int) (Ir : gr_I) (Jr : gr_J) (I : gr_I) (A : gc_A) (z : Int) (Iₚ : gr_I) (Aₚ : gc_A) : Prop := ∀ i t : Nat, (i : Int) < Iₚ 8 1 → Aₚ 10 i = some t → (I 8 1 ≤ (i : Int) ∧ Iₚ (t + 11) 1 = 0 ∧ Iₚ t 11 = 0) ∨ ((i : Int) < I 8 1 ∧ A 10 i = some t ∧ (gs_cD t I Iₚ ∨ (z = 1 ∧ (i : Int) = I 1 5 ∧ ((gs_rn β η p = gs_W 86 ∧ gs_c86 β η p Ir Jr I t Iₚ) ∨ (gs_rn β η p = gs_W 87 ∧ gs_c87 β η p Ir Jr I t Iₚ)))))
theorem gs_kD_s (h : gs_cD t I Iₚ) : gs_kD t I Iₚ := ⟨⟨by rw [h.1.1]; exact Int.le_refl _, fun k _ => h.1.2.1 k, fun k _ => h.1.2.2 k⟩, fun k _ => h.2.2 k⟩
theorem gs_kD_86 (h : gs_c86 β η p Ir Jr I t Iₚ) : gs_kD t I Iₚ := ⟨⟨by rw [h.1.1]; omega, fun k hk => h.1.2.1 k (by omega), fun k hk => h.1.2.2.1 k (by omega)⟩, fun k _ => h.2.2 k⟩
theorem gs_kD_87 (h : gs_c87 β η p Ir Jr I t Iₚ) : gs_kD t I Iₚ := ⟨⟨by rw [h.1.1]; exact Int.le_refl _, fun k _ => h.1.2.1 k, fun k _ => h.1.2.2 k⟩, fun k hk => h.2.2.2 k (by omega)⟩
theorem gs_kE_ts {m : List Nat} (ts : gs_TsX m Ir Jr Irₚ Jrₚ) (hm : ([17, 31, 32, 33, 34, 36, 37, 38, 39, 40].all (fun a => !(m.elem a))) = true) : gs_kE i Ir Irₚ := by
  simp only [List.all_cons, List.all_nil, Bool.and_true, Bool.and_eq_true, Bool.not_eq_true'] at hm
  obtain ⟨m1, m0, m2, m3, m4, m5, m6, m7, m8, m9⟩ := hm
  exact ⟨⟨by rw [ts.2.1 17 rfl m1]; exact Int.le_refl _, fun f _ _ => ts.2.1 31 rfl m0 _, fun f _ _ j _ _ => ⟨ts.2.1 32 rfl m2 _, ts.2.1 33 rfl m3 _, ts.2.1 34 rfl m4 _⟩⟩, fun w _ _ => ⟨⟨⟨ts.2.1 36 rfl m5 _, ts.2.1 37 rfl m6 _⟩, ts.2.1 39 rfl m8 _, ts.2.1 40 rfl m9 _⟩, fun k _ => ts.2.1 38 rfl m7 _⟩⟩
def gs_Rb9 (Ir : gr_I) : Prop := (∀ j : Nat, j < 8 → (0 ≤ Ir 17 j ∧ Ir 17 j ≤ 24) ∧ (0 ≤ Ir 18 j ∧ Ir 18 j ≤ 64)) ∧ Ir 0 6 < 8
theorem gs_kE_st (u : gs_STU β η p Ir Jr Irₚ Jrₚ) (hi : 0 ≤ i ∧ i < 8) (b : gs_Rb9 Ir) (b' : gs_Rb9 Irₚ) (hc : gs_K6 (gs_rn β η p) → 0 ≤ Ir 0 6) : gs_kE i Ir Irₚ := by
  obtain ⟨k, ek, uk⟩ := u
  have r := gs_UK_r uk
  have hk : k = 80 ∨ k = 81 ∨ k = 82 ∨ k = 83 ∨ k = 84 ∨ k = 85 ∨ k = 86 ∨ k = 87 ∨ k = 88 ∨ k = 89 ∨ k = 90 ∨ k = 91 := by omega
  have q3 := b.1 (Int.toNat i) (by omega)
  rcases hk with e | e | e | e | e | e | e | e | e | e | e | e <;> subst e
  · exact gs_kE_ts uk.2 rfl
  · exact gs_kE_ts uk.2 rfl
  · exact gs_kE_ts uk.2 rfl
  · exact gs_kE_ts uk.2 rfl
  · exact gs_kE_ts uk.2 rfl
  · exact gs_kE_ts uk.2 rfl
  · obtain ⟨⟨a, d⟩, ts⟩ := uk
    have c0 := hc (Or.inr (Or.inr (Or.inr (Or.inl ek))))
    have c8 := b.2
    obtain ⟨a1, a2, _, _, _, a6, _, a8⟩ := a
    obtain ⟨_, _, d3, ⟨_, d5⟩, _⟩ := d
    have eP : ((gs_Pn Ir : Nat) : Int) = 24 * Ir 0 6 + Ir 17 (Int.toNat (Ir 0 6)) := by
      unfold gs_Pn
      omega
    have nf : ∀ f : Int, 0 ≤ f → f < Ir 17 (Int.toNat i) → ¬ 24 * i + f = 24 * Ir 0 6 + Ir 17 (Int.toNat (Ir 0 6)) := fun f f0 f1 => by
      by_cases c : i = Ir 0 6
      · subst c
        omega
      · omega
    refine ⟨⟨?_, fun f f0 f1 => a6 _ (by have := nf f f0 f1; omega), fun f f0 f1 j j0 j1 => ?_⟩, fun w _ _ => ⟨⟨⟨ts.2.1 36 rfl rfl _, ts.2.1 37 rfl rfl _⟩, ts.2.1 39 rfl rfl _, ts.2.1 40 rfl rfl _⟩, fun k _ => ts.2.1 38 rfl rfl _⟩⟩
    · by_cases c : Int.toNat i = Int.toNat (Ir 0 6)
      · rw [c]
        omega
      · rw [a2 _ c]
        exact Int.le_refl _
    · have ne := nf f f0 f1
      have o := d3 (Int.toNat (24 * (24 * i + f) + j)) (by omega)
      exact ⟨a8 _ (by omega), o.1, o.2⟩
  · obtain ⟨⟨a, d⟩, ts⟩ := uk
    have c0 := hc (Or.inr (Or.inr (Or.inr (Or.inr (Or.inl ek)))))
    have c8 := b.2
    have q4 := b.1 (Int.toNat (Ir 0 6)) (by omega)
    have q5 := b'.1 (Int.toNat (Ir 0 6)) (by omega)
    have a1 := a.1
    obtain ⟨_, _, d3, d4, _⟩ := d
    have eW : ((gs_Wn Ir : Nat) : Int) = 64 * Ir 0 6 + Ir 18 (Int.toNat (Ir 0 6)) := by
      unfold gs_Wn
      omega
    refine ⟨⟨by rw [ts.2.1 17 rfl rfl]; exact Int.le_refl _, fun f _ _ => ts.2.1 31 rfl rfl _, fun f _ _ j _ _ => ⟨ts.2.1 32 rfl rfl _, ts.2.1 33 rfl rfl _, ts.2.1 34 rfl rfl _⟩⟩, fun w w0 w1 => ?_⟩
    have ne : ¬ 64 * i + w = 64 * Ir 0 6 + Ir 18 (Int.toNat (Ir 0 6)) := by
      by_cases c : i = Ir 0 6
      · subst c
        omega
      · omega
    exact ⟨d3 _ (by omega), fun k hk => d4 _ (by omega)⟩
  · exact gs_kE_ts uk.2 rfl
  · exact gs_kE_ts uk.2 rfl
  · exact gs_kE_ts uk.2 rfl
  · exact gs_kE_ts uk.2 rfl
/-- stems on both sides out of the same tokens -/
theorem fo_sc_sr {k : Nat} (hw : gs_ws9 β η p I f) (h3 : gs_w3 β η Ir0 p Ir f') (hk : k < 3) : fo_sc (I 20) f k = fo_sr (Ir 51) (f' k) := by
  unfold fo_sc fo_sr
  by_cases c : k < gs_smn β η 3 p
  · have a := hw.2 k c
    have b := h3.1 k c
    have o := b.2
    have e := b.1
    unfold so_rx at e
    by_cases x0 : f' k = -2147483648
    · rw [if_pos x0] at e
      have e2 : (2 : Int) = 0 := congrArg Prod.fst e
      exact absurd e2 (by decide)
    · rw [if_neg x0] at e
      by_cases x1 : f' k < 0
      · rw [if_pos x1] at e
        have e2 : (1 : Int) = 0 := congrArg Prod.fst e
        exact absurd e2 (by decide)
      · rw [if_neg x1] at e
        rw [if_neg (show ¬ f 4 ≤ (k : Int) by rw [hw.1]; omega), if_neg x1]
        have a1 := a.1
        rw [show 5 + 2 * k + 1 = 6 + 2 * k from by omega] at a1
        exact congrArg some (a1.trans (congrArg Prod.snd e).symm)
  · rw [if_pos (show f 4 ≤ (k : Int) by rw [hw.1]; omega), if_pos (by rw [h3.2 k (by omega) hk]; decide)]
theorem fo_okf_mk (hw : gs_ws9 β η p I f) : fo_okf (I 1 17) f := by
  have := gs_smn_3 (β := β) (N := η) 3 p
  refine ⟨by rw [hw.1]; omega, fun k hk => ?_⟩
  rw [hw.1] at hk
  have a := (hw.2 k (by omega)).2
  rw [show 5 + 2 * k + 1 = 6 + 2 * k from by omega] at a
  exact a
theorem fo_okx_mk {k : Nat} (h3 : gs_w3 β η Ir0 p Ir f') (hk : k < 3) : fo_okx (Ir 0 59) (f' k) := by
  by_cases c : k < gs_smn β η 3 p
  · rcases (h3.1 k c).2 with o | o | o
    · exact Or.inl (by omega)
    · exact Or.inl o.1
    · exact Or.inr o
  · exact Or.inl (by rw [h3.2 k (by omega) hk]; decide)
/-- a good statement: alike again -/
theorem gs_RW_st (hR : gs_R I J A Ir Jr) (hR' : gs_R Iₚ Jₚ Aₚ Irₚ Jrₚ) (h : gs_RW I A Ir) (pk : gc_PKs I Iₚ) (sd : gs_SD β η p Ir Jr I A 1 Iₚ Aₚ) (u : gs_STU β η p Ir Jr Irₚ Jrₚ) (lk : gr_LKs Ir Irₚ) (lp : gr_PTs Ir Irₚ) (b : gs_Rb9 Ir) (b' : gs_Rb9 Irₚ) (hc : gs_K6 (gs_rn β η p) → 0 ≤ Ir 0 6) (h8 : Iₚ 8 1 ≤ 8) (f3 : Ir 0 3 ≤ Irₚ 0 3) : gs_RW Iₚ Aₚ Irₚ := by
  obtain ⟨_, _, _, _, _, _, hc5, hT, _⟩ := hR
  obtain ⟨_, _, _, _, _, _, _, hT', _⟩ := hR'
  refine ⟨gs_PDa_STU h.1 u lk lp, fun i t hi hA => ?_⟩
  rcases sd i t hi hA with ⟨_, z11, zw⟩ | ⟨hi0, hA0, g⟩
  · exact ⟨fun f f0 f1 => absurd f1 (by omega), fun w w0 w1 => absurd w1 (by omega)⟩
  · obtain ⟨_, _, _, _, qp, qw, _⟩ := hT i t hi0 hA0
    obtain ⟨_, _, _, _, qp', qw', _⟩ := hT' i t hi hA
    have kr : gs_kE (i : Int) Ir Irₚ := gs_kE_st u ⟨by omega, by omega⟩ b b' hc
    have hh := h.2 i t hi0 hA0
    have kp : ∀ kc : gs_kD t I Iₚ, (∀ f : Int, 0 ≤ f → f < I (t + 11) 1 → gs_CA9 (i : Int) t Irₚ Iₚ f) ∧ ∀ w : Int, 0 ≤ w → w < I t 11 → gs_WA9 (i : Int) t Irₚ Iₚ w := fun kc => by
      refine ⟨fun f f0 f1 => ?_, fun w w0 w1 => gs_WA9_kp (hh.2 w w0 w1) w0 w1 qw pk kc lk kr f3⟩
      have o := h.1.2 (i : Int) f (by omega) (by omega) f0 (by rw [← qp.1.1]; exact f1)
      exact gs_CA9_kp (hh.1 f f0 f1) f0 f1 qp.1.1 (qp.2 f f0 f1).1 o.1.2 o.2 pk kc lk lp kr
    rcases g with g | ⟨_, gi, ⟨gw, g⟩ | ⟨gw, g⟩⟩
    · have k := kp (gs_kD_s g)
      exact ⟨fun f f0 f1 => k.1 f f0 (by rw [← g.1.1]; exact f1), fun w w0 w1 => k.2 w w0 (by rw [← g.2.1]; exact w1)⟩
    · have k := kp (gs_kD_86 g)
      refine ⟨fun f f0 f1 => ?_, fun w w0 w1 => k.2 w w0 (by rw [← g.2.1]; exact w1)⟩
      by_cases c : f < I (t + 11) 1
      · exact k.1 f f0 c
      · obtain ⟨⟨up, uc⟩, _⟩ := gs_STU_k u 86 (by decide) gw
        have g1 := g.1.1
        have e6 : Ir 0 6 = (i : Int) := by omega
        have ef : f = I (t + 11) 1 := by omega
        have q := qp.1.1
        have c1 := uc.1
        rw [e6, ← q] at c1
        have eN : gs_Pn Ir = Int.toNat (24 * (i : Int) + I (t + 11) 1) := by
          unfold gs_Pn
          rw [e6, q]
        subst ef
        intro j hj
        have ln := g.1.2.2.2.1
        have lq : (gs_ptw β η Ir Jr (gs_X β η p)).2.length = (gs_qtw β η Ir Jr (gs_X β η p)).2.length := by
          rw [gs_ptw_2 (show gs_qtw β η Ir Jr (gs_X β η p) = ((gs_qtw β η Ir Jr (gs_X β η p)).1, (gs_qtw β η Ir Jr (gs_X β η p)).2) from rfl), List.length_map]
        rw [ln, lq] at hj
        have x := g.1.2.2.2.2 j (by omega)
        rw [show Int.toNat (72 * I (t + 11) 1) = 72 * Int.toNat (I (t + 11) 1) from by omega]
        refine ⟨x.1.trans ?_, x.2⟩
        have ge : (gs_qtw β η Ir Jr (gs_X β η p)).2.getD j fo_d0 = gs_de9 Irₚ (24 * (24 * (i : Int) + I (t + 11) 1)) j := by
          have l2 : (((gs_qtw β η Ir Jr (gs_X β η p)).2.length : Nat) : Int) = Irₚ 31 (gs_Pn Ir) := by
            rw [← c1]
            exact fo_ll_len (uc.2.2.2.2.1)
          rw [← c1]
          exact fo_ll_getD (by omega)
        rw [ge]
    · have k := kp (gs_kD_87 g)
      refine ⟨fun f f0 f1 => k.1 f f0 (by rw [← g.1.1]; exact f1), fun w w0 w1 => ?_⟩
      by_cases c : w < I t 11
      · exact k.2 w w0 c
      · obtain ⟨⟨_, uw⟩, ts⟩ := gs_STU_k u 87 (by decide) gw
        have g1 := g.2.1
        have e6 : Ir 0 6 = (i : Int) := by omega
        have ew : w = I t 11 := by omega
        have eN : gs_Wn Ir = Int.toNat (64 * (i : Int) + I t 11) := by
          unfold gs_Wn
          rw [e6, qw]
        subst ew
        obtain ⟨⟨⟨k0, k1, k2, k3⟩, ks⟩, _⟩ := g.2.2
        obtain ⟨⟨u0, u1, u2, u3⟩, us, _, _, ub⟩ := uw
        rw [eN] at u0 u1 u2 u3 us
        have xe : ∀ k9 : Nat, gs_xw Irₚ (i : Int) (I t 11) k9 = Irₚ 38 (3 * Int.toNat (64 * (i : Int) + I t 11) + k9) := fun k9 => by
          unfold gs_xw
          rw [show Int.toNat (3 * (64 * (i : Int) + I t 11) + (k9 : Int)) = 3 * Int.toNat (64 * (i : Int) + I t 11) + k9 from by omega]
        refine ⟨⟨k0.trans u0.symm, k1.trans u1.symm, by rw [u2]; exact k2, k3.trans u3.symm⟩, fun k9 hk => ?_, fo_okf_mk ks, fun k9 hk => ?_, ?_, ?_⟩
        · rw [xe]
          exact fo_sc_sr (f := gs_fw Iₚ t (I t 11)) (f' := fun k => Irₚ 38 (3 * Int.toNat (64 * (i : Int) + I t 11) + k)) ks us hk
        · rw [xe]
          exact fo_okx_mk (f' := fun k => Irₚ 38 (3 * Int.toNat (64 * (i : Int) + I t 11) + k)) us hk
        · rw [u0]
          have := ub.1
          omega
        · rw [u1]
          have := ub.2
          rw [e6] at this
          have e17 := ts.2.1 17 rfl rfl (Int.toNat (i : Int))
          omega
end RW9
