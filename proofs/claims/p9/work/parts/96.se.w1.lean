section CM9
variable {I Iₚ : gr_I} {t w c : Int}
theorem fo_wr_fr (h : ∀ a k : Nat, (33 ≤ a ∧ a ≤ 38) ∨ a = 51 → Iₚ a k = I a k) : fo_wr Iₚ t w c = fo_wr I t w c := by
  have e33 : Iₚ 33 = I 33 := funext fun k => h 33 k (by decide)
  have e34 : Iₚ 34 = I 34 := funext fun k => h 34 k (by decide)
  have e35 : Iₚ 35 = I 35 := funext fun k => h 35 k (by decide)
  have e37 : Iₚ 37 = I 37 := funext fun k => h 37 k (by decide)
  have e38 : Iₚ 38 = I 38 := funext fun k => h 38 k (by decide)
  have e51 : Iₚ 51 = I 51 := funext fun k => h 51 k (by decide)
  have eS : fo_Sr Iₚ t w = fo_Sr I t w := funext fun b => by
    unfold fo_Sr
    rw [e38, e51]
  have eX : fo_Xc Iₚ t w c = fo_Xc I t w c := by
    unfold fo_Xc
    rw [e37]
  unfold fo_wr
  rw [eX, eS, e33, e34, e35, e51]
theorem gs_JO_fr (k : gs_JO I t w c) (h : ∀ a k : Nat, (33 ≤ a ∧ a ≤ 38) ∨ a = 51 → Iₚ a k = I a k) (e59 : Iₚ 0 59 = I 0 59) (e42 : Iₚ 0 42 = I 0 42) : gs_JO Iₚ t w c := by
  have e33 : Iₚ 33 = I 33 := funext fun k => h 33 k (by decide)
  have e34 : Iₚ 34 = I 34 := funext fun k => h 34 k (by decide)
  have e35 : Iₚ 35 = I 35 := funext fun k => h 35 k (by decide)
  have e37 : Iₚ 37 = I 37 := funext fun k => h 37 k (by decide)
  have e38 : Iₚ 38 = I 38 := funext fun k => h 38 k (by decide)
  have e51 : Iₚ 51 = I 51 := funext fun k => h 51 k (by decide)
  have eX : fo_Xc Iₚ t w c = fo_Xc I t w c := by
    unfold fo_Xc
    rw [e37]
  unfold gs_JO gs_xw at k ⊢
  rw [eX, e33, e34, e35, e38, e51, e59, e42]
  exact k
end CM9
/-! kept FORMS of the reference (p9 to p13): rows 78 (letters), 79 (how many), fields 127 (whose), 128 (of which version) -/
def fo_cr (I : gr_I) (t w : Int) : Int := I 31 (Int.toNat (24 * t + I 37 (Int.toNat (64 * t + w))))
def fo_Ur (I : gr_I) (t : Int) : Nat → so_ru := fun k : Nat => so_rr I t (24 * t + (k : Int))
def fo_Fr (I I1 : gr_I) (t w c : Int) : Prop := fo_out (fo_Ur I t) (Int.toNat (I 16 (Int.toNat t))) (fo_wr I t w c) (fun k => I1 78 (Int.toNat (24 * (24 * w + c)) + k)) (I1 79 (Int.toNat (24 * w + c)))
def fo_DR (I I1 : gr_I) (t w c : Int) : Prop := ∀ w' c' : Int, 0 ≤ w' → w' < I 18 (Int.toNat t) → 0 ≤ c' → c' < fo_cr I t w' → (w' < w ∨ (w' = w ∧ c' < c)) → fo_Fr I I1 t w' c'
def fo_FR (I I1 : gr_I) (t : Int) : Prop := ∀ w c : Int, 0 ≤ w → w < I 18 (Int.toNat t) → 0 ≤ c → c < fo_cr I t w → fo_Fr I I1 t w c
def fo_GR (I : gr_I) (t : Int) : Prop := gs_SV I t ∧ ∀ w c : Int, 0 ≤ w → w < I 18 (Int.toNat t) → 0 ≤ c → c < fo_cr I t w → gs_JO I t w c
/-- a form is laid: k of its letters are copied -/
def fo_L8 (I I8 : gr_I) (t w c x k : Int) : Prop := fo_DR I I8 t w c ∧ x = 24 * w + c ∧ fo_out (fo_Ur I t) (Int.toNat (I 16 (Int.toNat t))) (fo_wr I t w c) (I8 76) (I8 79 (Int.toNat x)) ∧ ∀ j : Nat, (j : Int) < k → I8 78 (Int.toNat (24 * x) + j) = I8 76 j
/-- what is kept is right -/
def gr_KQ (I : gr_I) : Prop := (∀ t : Int, 0 ≤ t → t < I 0 1 → fo_GR I t) ∧ (0 ≤ I 0 127 → I 0 127 < I 0 1 → I 0 128 = I 0 100 → fo_FR I I (I 0 127)) ∧ I 0 128 ≤ I 0 100
def gr_KR (I Iₚ : gr_I) : Prop := gr_KQ I → gr_KQ Iₚ
/-- what a module leaves of it -/
def gr_MK (z : Int) (I Iₚ : gr_I) : Prop := (Iₚ 0 100 = I 0 100 + 1 ∨ (Iₚ 0 100 = I 0 100 ∧ z < 0)) ∧ (Iₚ 0 127 = I 0 127 ∧ Iₚ 0 128 = I 0 128) ∧ (∀ k, Iₚ 78 k = I 78 k) ∧ ∀ k, Iₚ 79 k = I 79 k
section KF9
variable {I I1 I2 I8 Iₚ : gr_I} {t w c x k z : Int} {n : Nat}
theorem gr_KR_rf : gr_KR I I := fun h => h
theorem gr_KR_tr (h : gr_KR I I1) (g : gr_KR I1 I2) : gr_KR I I2 := fun q => g (h q)
theorem fo_cr_fr (e37 : ∀ k, Iₚ 37 k = I 37 k) (e31 : ∀ k, Iₚ 31 k = I 31 k) : fo_cr Iₚ t w = fo_cr I t w := by
  unfold fo_cr
  rw [e37, e31]
theorem fo_Fr_cg (h : fo_Fr I I1 t w c) (b : I1 79 (Int.toNat (24 * w + c)) ≤ 24) (e79 : I2 79 (Int.toNat (24 * w + c)) = I1 79 (Int.toNat (24 * w + c))) (e78 : ∀ j : Nat, j < 24 → I2 78 (Int.toNat (24 * (24 * w + c)) + j) = I1 78 (Int.toNat (24 * (24 * w + c)) + j)) : fo_Fr I I2 t w c := by
  unfold fo_Fr at h ⊢
  rw [e79]
  exact fo_out_cg h (fun _ => so_b_cg rfl (fun j hj => e78 j (by omega)))
theorem fo_DR_0 : fo_DR I I1 t 0 0 := fun w' c' h0 _ h2 _ h4 => by omega
theorem fo_DR_n (h : fo_DR I I1 t w c) (e : fo_cr I t w ≤ c) : fo_DR I I1 t (w + 1) 0 := fun w' c' h0 h1 h2 h3 h4 => h w' c' h0 h1 h2 h3 (by
  by_cases e9 : w' = w
  · rw [e9] at h3
    exact Or.inr ⟨e9, by omega⟩
  · exact Or.inl (by omega))
theorem fo_DR_e (h : fo_DR I I1 t w c) (e : I 18 (Int.toNat t) ≤ w) : fo_FR I I1 t := fun w' c' h0 h1 h2 h3 => h w' c' h0 h1 h2 h3 (Or.inl (by omega))
theorem fo_L8_0 {I5 I20 : gr_I} (h : fo_DR I I5 t w c) (hw : 0 ≤ w) (hc : 0 ≤ c ∧ c < 24) (b : ∀ w' : Int, fo_cr I t w' ≤ 24) (bz : ∀ j : Nat, I5 79 j ≤ 24) (o : fo_out (fo_Ur I t) (Int.toNat (I 16 (Int.toNat t))) (fo_wr I t w c) (I20 76) z) (f78 : ∀ k, I20 78 k = I5 78 k) (f79 : ∀ k, I20 79 k = I5 79 k) (hx : x = 24 * w + c) (hn : n = Int.toNat x) (p : ∀ b j, ¬ (b = 79 ∧ j = n) → Iₚ b j = I20 b j) (q : Iₚ 79 n = z) : fo_L8 I Iₚ t w c x 0 := by
  refine ⟨fun w' c' h0 h1 h2 h3 h4 => ?_, hx, ?_, fun j hj => by omega⟩
  · have b' := b w'
    exact fo_Fr_cg (h w' c' h0 h1 h2 h3 h4) (bz _) ((p 79 _ (fun e => by have := e.2; omega)).trans (f79 _)) (fun j _ => (p 78 _ (fun e => absurd e.1 (by decide))).trans (f78 _))
  · rw [← hn, q]
    have e76 : Iₚ 76 = I20 76 := funext fun j => p 76 j (fun e => absurd e.1 (by decide))
    rw [e76]
    exact o
theorem fo_L8_s (h : fo_L8 I I8 t w c x k) (hw : 0 ≤ w) (hc : 0 ≤ c ∧ c < 24) (b : ∀ w' : Int, fo_cr I t w' ≤ 24) (bz : ∀ j : Nat, I8 79 j ≤ 24) (k0 : 0 ≤ k) (k24 : k < 24) (hn : n = Int.toNat (24 * x + k)) (p : ∀ b j, ¬ (b = 78 ∧ j = n) → Iₚ b j = I8 b j) (q : Iₚ 78 n = I8 76 (Int.toNat k)) : fo_L8 I Iₚ t w c x (k + 1) := by
  obtain ⟨h1, hx, h3, h4⟩ := h
  have e76 : ∀ j, Iₚ 76 j = I8 76 j := fun j => p 76 j (fun e => absurd e.1 (by decide))
  have e79 : ∀ j, Iₚ 79 j = I8 79 j := fun j => p 79 j (fun e => absurd e.1 (by decide))
  refine ⟨fun w' c' g0 g1 g2 g3 g4 => ?_, hx, ?_, fun j hj => ?_⟩
  · have b' := b w'
    exact fo_Fr_cg (h1 w' c' g0 g1 g2 g3 g4) (bz _) (e79 _) (fun j hj => p 78 _ (fun e => by have := e.2; omega))
  · rw [e79, show Iₚ 76 = I8 76 from funext e76]
    exact h3
  · rw [e76]
    by_cases e : (j : Int) = k
    · rw [show Int.toNat (24 * x) + j = n from by omega, q, show Int.toNat k = j from by omega]
    · rw [p 78 _ (fun e9 => by have := e9.2; omega)]
      exact h4 j (by omega)
theorem fo_L8_e (h : fo_L8 I I8 t w c x k) (e : I8 79 (Int.toNat x) ≤ k) : fo_DR I I8 t w (c + 1) := fun w' c' g0 g1 g2 g3 g4 => by
  obtain ⟨h1, hx, h3, h4⟩ := h
  by_cases e9 : w' = w ∧ c' = c
  · obtain ⟨rfl, rfl⟩ := e9
    unfold fo_Fr
    rw [← hx]
    exact fo_out_cg h3 (fun _ => so_b_cg rfl (fun j hj => h4 j (by omega)))
  · exact h1 w' c' g0 g1 g2 g3 (by omega)
/-- the tables -/
def fo_tr (I Iₚ : gr_I) : Prop := (∀ a k : Nat, (15 ≤ a ∧ a ≤ 18) ∨ (26 ≤ a ∧ a ≤ 38) ∨ a = 51 → Iₚ a k = I a k) ∧ Iₚ 0 1 = I 0 1 ∧ Iₚ 0 42 = I 0 42 ∧ Iₚ 0 59 = I 0 59 ∧ Iₚ 0 100 = I 0 100
theorem fo_tr_GR (e : fo_tr I Iₚ) (h : fo_GR I t) : fo_GR Iₚ t := by
  obtain ⟨e1, _, e42, e59, _⟩ := e
  refine ⟨gs_SV_eq h.1 (fun a k g => e1 a k (by omega)) (fun k => e1 15 k (by decide)) (fun k => e1 16 k (by decide)) e59, fun w c w0 w1 c0 c1 => ?_⟩
  rw [e1 18 _ (by decide)] at w1
  rw [fo_cr_fr (fun k => e1 37 k (by decide)) (fun k => e1 31 k (by decide))] at c1
  exact gs_JO_fr (h.2 w c w0 w1 c0 c1) (fun a k g => e1 a k (by omega)) e59 e42
theorem fo_tr_FR (e : fo_tr I Iₚ) (h : fo_FR I I1 t) (e78 : ∀ k, I2 78 k = I1 78 k) (e79 : ∀ k, I2 79 k = I1 79 k) : fo_FR Iₚ I2 t := fun w c w0 w1 c0 c1 => by
  obtain ⟨e1, _⟩ := e
  rw [e1 18 _ (by decide)] at w1
  rw [fo_cr_fr (fun k => e1 37 k (by decide)) (fun k => e1 31 k (by decide))] at c1
  have h9 := h w c w0 w1 c0 c1
  have eU : fo_Ur Iₚ t = fo_Ur I t := funext fun k => so_rr_eq (fun a k g => e1 a k (by omega))
  have e7 : I2 78 = I1 78 := funext e78
  unfold fo_Fr at h9 ⊢
  rw [eU, e1 16 _ (by decide), fo_wr_fr (fun a k g => e1 a k (by omega)), e79, e7]
  exact h9
theorem gr_KQ_fr (h : gr_KQ I) (e : fo_tr I Iₚ) (e127 : Iₚ 0 127 = I 0 127) (e128 : Iₚ 0 128 = I 0 128) (e78 : ∀ k, Iₚ 78 k = I 78 k) (e79 : ∀ k, Iₚ 79 k = I 79 k) : gr_KQ Iₚ := by
  obtain ⟨h1, h2, h3⟩ := h
  have e01 := e.2.1
  have e00 := e.2.2.2.2
  refine ⟨fun t t0 t1 => fo_tr_GR e (h1 t t0 (by omega)), fun g0 g1 g2 => ?_, by omega⟩
  rw [e127]
  exact fo_tr_FR e (h2 (by omega) (by omega) (by omega)) e78 e79
/-- forms of a TONGUE that is there were made -/
theorem gr_KQ_mk (h : gr_KQ I) (e : fo_tr I Iₚ) (e127 : Iₚ 0 127 = t) (e128 : Iₚ 0 128 = I 0 100) (f : t < I 0 1 → fo_FR I Iₚ t) : gr_KQ Iₚ := by
  obtain ⟨h1, h2, h3⟩ := h
  have e01 := e.2.1
  have e00 := e.2.2.2.2
  refine ⟨fun t t0 t1 => fo_tr_GR e (h1 t t0 (by omega)), fun g0 g1 g2 => ?_, by omega⟩
  rw [e127]
  exact fo_tr_FR e (f (by omega)) (fun _ => rfl) (fun _ => rfl)
/-- a frame that no table is in -/
def gr_kt (fs as : List Nat) : Bool := fs.all (fun k => !(k == 1 || k == 42 || k == 59 || k == 100)) && as.all (fun a => !((15 ≤ a && a ≤ 18) || (26 ≤ a && a ≤ 38) || a == 51))
theorem gr_kt_f {fs as : List Nat} {k : Nat} (h : gr_kt fs as = true) (hk : k = 1 ∨ k = 42 ∨ k = 59 ∨ k = 100) : gr_in fs as 0 k = false := by
  unfold gr_kt at h
  simp only [Bool.and_eq_true] at h
  cases hb : gr_in fs as 0 k with
  | false => rfl
  | true =>
    have h1 := List.all_eq_true.mp h.1 k (List.elem_iff.mp hb)
    rcases hk with e | e | e | e <;> (rw [e] at h1; exact absurd h1 (by decide))
theorem gr_kt_a {fs as : List Nat} {a k : Nat} (h : gr_kt fs as = true) (ha : (15 ≤ a ∧ a ≤ 18) ∨ (26 ≤ a ∧ a ≤ 38) ∨ a = 51) : gr_in fs as a k = false := by
  unfold gr_kt at h
  simp only [Bool.and_eq_true] at h
  cases hb : gr_in fs as a k with
  | false => rfl
  | true =>
    cases a with
    | zero => omega
    | succ a =>
      have h1 := List.all_eq_true.mp h.2 (a + 1) (List.elem_iff.mp hb)
      simp only [Bool.not_eq_true', Bool.or_eq_false_iff, Bool.and_eq_false_iff, decide_eq_false_iff_not, beq_eq_false_iff_ne] at h1
      omega
theorem gr_kt_t {fs as : List Nat} (h : gr_kt fs as = true) (F : gr_fr fs as I Iₚ) : fo_tr I Iₚ := ⟨fun a k g => F a k (gr_kt_a h g), F 0 1 (gr_kt_f h (by omega)), F 0 42 (gr_kt_f h (by omega)), F 0 59 (gr_kt_f h (by omega)), F 0 100 (gr_kt_f h (by omega))⟩
theorem fo_tr_sy (e : fo_tr I Iₚ) : fo_tr Iₚ I := ⟨fun a k g => (e.1 a k g).symm, e.2.1.symm, e.2.2.1.symm, e.2.2.2.1.symm, e.2.2.2.2.symm⟩
/-- a frame that none of it is in -/
def gr_kn (fs as : List Nat) : Bool := fs.all (fun k => !(k == 1 || k == 42 || k == 59 || k == 100 || k == 127 || k == 128)) && as.all (fun a => !((15 ≤ a && a ≤ 18) || (26 ≤ a && a ≤ 38) || a == 51 || a == 78 || a == 79))
theorem gr_kn_f {fs as : List Nat} {k : Nat} (h : gr_kn fs as = true) (hk : k = 1 ∨ k = 42 ∨ k = 59 ∨ k = 100 ∨ k = 127 ∨ k = 128) : gr_in fs as 0 k = false := by
  unfold gr_kn at h
  simp only [Bool.and_eq_true] at h
  cases hb : gr_in fs as 0 k with
  | false => rfl
  | true =>
    have h1 := List.all_eq_true.mp h.1 k (List.elem_iff.mp hb)
    rcases hk with e | e | e | e | e | e <;> (rw [e] at h1; exact absurd h1 (by decide))
theorem gr_kn_a {fs as : List Nat} {a k : Nat} (h : gr_kn fs as = true) (ha : (15 ≤ a ∧ a ≤ 18) ∨ (26 ≤ a ∧ a ≤ 38) ∨ a = 51 ∨ a = 78 ∨ a = 79) : gr_in fs as a k = false := by
  unfold gr_kn at h
  simp only [Bool.and_eq_true] at h
  cases hb : gr_in fs as a k with
  | false => rfl
  | true =>
    cases a with
    | zero => omega
    | succ a =>
      have h1 := List.all_eq_true.mp h.2 (a + 1) (List.elem_iff.mp hb)
      simp only [Bool.not_eq_true', Bool.or_eq_false_iff, Bool.and_eq_false_iff, decide_eq_false_iff_not, beq_eq_false_iff_ne] at h1
      omega
theorem gr_kn_t {fs as : List Nat} (h : gr_kn fs as = true) (F : gr_fr fs as I Iₚ) : fo_tr I Iₚ := ⟨fun a k g => F a k (gr_kn_a h (by omega)), F 0 1 (gr_kn_f h (by omega)), F 0 42 (gr_kn_f h (by omega)), F 0 59 (gr_kn_f h (by omega)), F 0 100 (gr_kn_f h (by omega))⟩
theorem gr_KR_g {fs as : List Nat} (K : gr_KR I I1) (F : gr_fr fs as I1 I2) (h : gr_kn fs as = true) : gr_KR I I2 := fun q => gr_KQ_fr (K q) (gr_kn_t h F) (F 0 127 (gr_kn_f h (by omega))) (F 0 128 (gr_kn_f h (by omega))) (fun k => F 78 k (gr_kn_a h (by omega))) (fun k => F 79 k (gr_kn_a h (by omega)))
/-- one slot alone -/
theorem gr_KR_f {j : Nat} (K : gr_KR I I1) (p : ∀ b i, ¬ (b = 0 ∧ i = j) → I2 b i = I1 b i) (h : gr_kn [j] [] = true) : gr_KR I I2 := gr_KR_g (fs := [j]) (as := []) K (fun b i g => p b i (fun e => by
  obtain ⟨rfl, rfl⟩ := e
  have g2 : List.elem i [i] = false := g
  rw [List.elem_iff.mpr (List.mem_singleton.mpr rfl)] at g2
  cases g2)) h
theorem gr_KR_a {a j : Nat} (ha : ¬ a = 0) (K : gr_KR I I1) (p : ∀ b i, ¬ (b = a ∧ i = j) → I2 b i = I1 b i) (h : gr_kn [] [a] = true) : gr_KR I I2 := gr_KR_g (fs := []) (as := [a]) K (fun b i g => p b i (fun e => by
  obtain ⟨rfl, rfl⟩ := e
  cases b with
  | zero => exact ha rfl
  | succ b =>
    have g2 : List.elem (b + 1) [b + 1] = false := g
    rw [List.elem_iff.mpr (List.mem_singleton.mpr rfl)] at g2
    cases g2)) h
end KF9
set_option maxHeartbeats 8000000 in
set_option maxRecDepth 100000 in
theorem r_cellsOf_z {ws0 : List Cond} {tb : String → gz_T} (hws : ∀ w ∈ gr_ws, w ∈ ws0) (htb : tb RX13 = gr_T) (ext : gz_Sh) (I : gr_I) (J : gr_J) (hI : gr_Inv I) (a1 : Int) (a2 : Int) (ha1 : 0 ≤ a1 ∧ a1 ≤ 7) (ha2 : 0 ≤ a2 ∧ a2 ≤ 63)  : ∃ r hₚ, gz_Ev ws0 tb 1 (yX13_cellsOf, cX13_cellsOf, 3, (some .int)) [.inr (.inr (some 0)), .inl a1, .inl a2] (gr_sh ++ ext) (gr_h I J) r (gr_sh ++ ext) hₚ 0 0 ∧ (hₚ = gr_h I J ∧ (∃ z : Int, r = some (.inl z) ∧ 0 ≤ z ∧ z ≤ 24 ∧ z = I 31 (Int.toNat (24 * a1 + I 37 (Int.toNat (64 * a1 + a2)))))) := by
  have hD : gv_D (gr_E ws0 tb 0 (yX13_cellsOf, cX13_cellsOf, 3, (some .int)) kX13_cellsOf) := gq_of oX13_cellsOf
  refine gr_ev (d := 0) (l := kX13_cellsOf) (Po := fun r hₚ => (hₚ = gr_h I J ∧ (∃ z : Int, r = some (.inl z) ∧ 0 ≤ z ∧ z ≤ 24 ∧ z = I 31 (Int.toNat (24 * a1 + I 37 (Int.toNat (64 * a1 + a2))))))) htb rfl (Nat.le_of_ble_eq_true rfl) ?_
  refine gv_run 7 true hD (pcₚ := 12) (lvₚ := [(0, .inr (.inr (some 0))), (1, .inl a1), (2, .inl a2)]) (stₚ := [.inr (.inr (some 37)), .inl (24 * a1), .inr (.inr (some 31))]) (hₚ := gr_h I J) (C := (((((((True ∧ True) ∧ True) ∧ True) ∧ True) ∧ True) ∧ True) ∧ True)) rfl ⟨⟨⟨⟨⟨⟨⟨trivial, trivial⟩, trivial⟩, trivial⟩, trivial⟩, trivial⟩, trivial⟩, trivial⟩ ?_
  have f1 := gz_hi ((gr_b_37 hI (Int.toNat (((64 * a1) + a2)))))
  refine gv_run 6 true hD (pcₚ := 19) (lvₚ := [(0, .inr (.inr (some 0))), (1, .inl a1), (2, .inl a2)]) (stₚ := [.inl (I 37 (Int.toNat (((64 * a1) + a2)))), .inl (24 * a1), .inr (.inr (some 31))]) (hₚ := gr_h I J) (C := ((((((True ∧ True) ∧ True) ∧ True) ∧ True) ∧ True) ∧ (0 ≤ (((64 * a1) + a2)) ∧ (((64 * a1) + a2)) < ((512 : Nat) : Int)))) rfl ⟨⟨⟨⟨⟨⟨trivial, trivial⟩, trivial⟩, trivial⟩, trivial⟩, trivial⟩, ⟨by (/-0-/first | omega | (simp only [gz_hd] at *; omega)), by (/-1-/first | omega | (simp only [gz_hd] at *; omega))⟩⟩ ?_
  have f2 := gz_hi ((gr_b_31 hI (Int.toNat (((24 * a1) + (I 37 (Int.toNat (((64 * a1) + a2)))))))))
  refine gv_run 2 true hD (pcₚ := 21) (lvₚ := [(0, .inr (.inr (some 0))), (1, .inl a1), (2, .inl a2)]) (stₚ := [.inl (I 31 (Int.toNat (((24 * a1) + (I 37 (Int.toNat (((64 * a1) + a2))))))))]) (hₚ := gr_h I J) (C := ((True ∧ True) ∧ (0 ≤ (((24 * a1) + (I 37 (Int.toNat (((64 * a1) + a2)))))) ∧ (((24 * a1) + (I 37 (Int.toNat (((64 * a1) + a2)))))) < ((192 : Nat) : Int)))) rfl ⟨⟨trivial, trivial⟩, ⟨by (/-2-/first | (have o1 := gz_sh f1; omega) | (simp only [gz_hd] at *; omega)), by (/-3-/first | (have o1 := gz_sh f1; omega) | (simp only [gz_hd] at *; omega))⟩⟩ ?_
  exact gv_iret hD rfl ⟨rfl, ⟨_, rfl, by (/-4-/first | (have o1 := gz_sh f2; omega) | (simp only [gz_hd] at *; omega)), by (/-5-/first | (have o1 := gz_sh f2; omega) | (simp only [gz_hd] at *; omega)), rfl⟩⟩
set_option maxHeartbeats 8000000 in
set_option maxRecDepth 100000 in
theorem r_forms_v {ws0 : List Cond} {tb : String → gz_T} (hws : ∀ w ∈ gr_ws, w ∈ ws0) (htb : tb RX13 = gr_T) (ext : gz_Sh) (I : gr_I) (J : gr_J) (hI : gr_Inv I) (a1 : Int) (ha1 : 0 ≤ a1 ∧ a1 ≤ 7)  : ∃ r hₚ, gz_Ev ws0 tb 6 (yX13_forms, cX13_forms, 6, none) [.inr (.inr (some 0)), .inl a1] (gr_sh ++ ext) (gr_h I J) r (gr_sh ++ ext) hₚ 0 0 ∧ (∃ (Iₚ : gr_I) (Jₚ : gr_J), hₚ = gr_h Iₚ Jₚ ∧ gr_Inv Iₚ ∧ gr_fr [126, 127, 128] [76, 77, 78, 79] I Iₚ ∧ gr_fj [126, 127, 128] [76, 77, 78, 79] J Jₚ ∧ r = none ∧ (Iₚ 0 127 = a1) ∧ (Iₚ 0 128 = I 0 100)) := by
  have FI : gr_fr [126, 127, 128] [76, 77, 78, 79] I I := fun _ _ _ => rfl
  have FJ : gr_fj [126, 127, 128] [76, 77, 78, 79] J J := fun _ _ _ => rfl
  have hD : gv_D (gr_E ws0 tb 5 (yX13_forms, cX13_forms, 6, none) kX13_forms) := gq_of oX13_forms
  refine gr_ev (d := 5) (l := kX13_forms) (Po := fun r hₚ => (∃ (Iₚ : gr_I) (Jₚ : gr_J), hₚ = gr_h Iₚ Jₚ ∧ gr_Inv Iₚ ∧ gr_fr [126, 127, 128] [76, 77, 78, 79] I Iₚ ∧ gr_fj [126, 127, 128] [76, 77, 78, 79] J Jₚ ∧ r = none ∧ (Iₚ 0 127 = a1) ∧ (Iₚ 0 128 = I 0 100))) htb rfl (Nat.le_of_ble_eq_true rfl) ?_
  have L20 : ((0 ≤ a1 ∧ a1 ≤ 7)) → gv_X (gr_E ws0 tb 5 (yX13_forms, cX13_forms, 6, none) kX13_forms) (gv_Q cX13_forms none (gr_sh ++ ext) (fun r hₚ => (∃ (Iₚ : gr_I) (Jₚ : gr_J), hₚ = gr_h Iₚ Jₚ ∧ gr_Inv Iₚ ∧ gr_fr [126, 127, 128] [76, 77, 78, 79] I Iₚ ∧ gr_fj [126, 127, 128] [76, 77, 78, 79] J Jₚ ∧ r = none ∧ (Iₚ 0 127 = a1) ∧ (Iₚ 0 128 = I 0 100)))) (20, [(0, .inr (.inr (some 0))), (1, .inl a1)], [], gr_sh ++ ext, gr_h I J) := by
    intro m_1
    have ha1_1 := m_1
    have L35 : ∀ (n : Nat) (I2 : gr_I) (J3 : gr_J) (v2_4 : Int), (65 - v2_4).toNat < n → gr_Inv I2 → gr_fr [126, 127, 128] [76, 77, 78, 79] I I2 → gr_fj [126, 127, 128] [76, 77, 78, 79] J J3 → ((0 ≤ a1 ∧ a1 ≤ 7) ∧ (0 ≤ v2_4 ∧ v2_4 ≤ 64)) → (I2 0 127 = a1 ∧ I2 0 128 = I 0 100) → gv_X (gr_E ws0 tb 5 (yX13_forms, cX13_forms, 6, none) kX13_forms) (gv_Q cX13_forms none (gr_sh ++ ext) (fun r hₚ => (∃ (Iₚ : gr_I) (Jₚ : gr_J), hₚ = gr_h Iₚ Jₚ ∧ gr_Inv Iₚ ∧ gr_fr [126, 127, 128] [76, 77, 78, 79] I Iₚ ∧ gr_fj [126, 127, 128] [76, 77, 78, 79] J Jₚ ∧ r = none ∧ (Iₚ 0 127 = a1) ∧ (Iₚ 0 128 = I 0 100)))) (35, [(0, .inr (.inr (some 0))), (1, .inl a1), (2, .inl v2_4)], [], gr_sh ++ ext, gr_h I2 J3) := by
      intro n
      induction n with
      | zero => intro I2 J3 v2_4 hn; (/-0-/first | omega | (simp only [gz_hd] at *; omega))
      | succ n ih35 =>
        intro I2 J3 v2_4 hn hI2 FI2 FJ3 m_4 k_35
        clear ha1_1
        obtain ⟨ha1_4, hv2_4⟩ := gz_h2 m_4
        have L47 : ∀ (n : Nat) (I5 : gr_I) (J6 : gr_J) (v3_7 : Int), (25 - v3_7).toNat < n → gr_Inv I5 → gr_fr [126, 127, 128] [76, 77, 78, 79] I I5 → gr_fj [126, 127, 128] [76, 77, 78, 79] J J6 → ((0 ≤ a1 ∧ a1 ≤ 7) ∧ (0 ≤ v2_4 ∧ v2_4 ≤ 63) ∧ (0 ≤ v3_7 ∧ v3_7 ≤ 24)) → (I5 0 127 = a1 ∧ I5 0 128 = I 0 100 ∧ v2_4 < I 18 (Int.toNat a1)) → gv_X (gr_E ws0 tb 5 (yX13_forms, cX13_forms, 6, none) kX13_forms) (gv_Q cX13_forms none (gr_sh ++ ext) (fun r hₚ => (∃ (Iₚ : gr_I) (Jₚ : gr_J), hₚ = gr_h Iₚ Jₚ ∧ gr_Inv Iₚ ∧ gr_fr [126, 127, 128] [76, 77, 78, 79] I Iₚ ∧ gr_fj [126, 127, 128] [76, 77, 78, 79] J Jₚ ∧ r = none ∧ (Iₚ 0 127 = a1) ∧ (Iₚ 0 128 = I 0 100)))) (47, [(0, .inr (.inr (some 0))), (1, .inl a1), (2, .inl v2_4), (3, .inl v3_7)], [], gr_sh ++ ext, gr_h I5 J6) := by
          intro n
          induction n with
          | zero => intro I5 J6 v3_7 hn; (/-1-/first | omega | (simp only [gz_hd] at *; omega))
          | succ n ih47 =>
            intro I5 J6 v3_7 hn hI5 FI5 FJ6 m_7 k_47
            clear ha1_4 hv2_4
            obtain ⟨ha1_7, hv2_4_7, hv3_7⟩ := gz_h3 m_7
            have L82 : ∀ (n : Nat) (I8 : gr_I) (J9 : gr_J) (v4_10 : Int) (v5_10 : Int), (25 - v5_10).toNat < n → gr_Inv I8 → gr_fr [126, 127, 128] [76, 77, 78, 79] I I8 → gr_fj [126, 127, 128] [76, 77, 78, 79] J J9 → ((0 ≤ a1 ∧ a1 ≤ 7) ∧ (0 ≤ v2_4 ∧ v2_4 ≤ 63) ∧ (0 ≤ v3_7 ∧ v3_7 ≤ 23) ∧ (0 ≤ v4_10 ∧ v4_10 ≤ 1535) ∧ (0 ≤ v5_10 ∧ v5_10 ≤ 24)) → (I8 0 127 = a1 ∧ I8 0 128 = I 0 100 ∧ v2_4 < I 18 (Int.toNat a1)) → gv_X (gr_E ws0 tb 5 (yX13_forms, cX13_forms, 6, none) kX13_forms) (gv_Q cX13_forms none (gr_sh ++ ext) (fun r hₚ => (∃ (Iₚ : gr_I) (Jₚ : gr_J), hₚ = gr_h Iₚ Jₚ ∧ gr_Inv Iₚ ∧ gr_fr [126, 127, 128] [76, 77, 78, 79] I Iₚ ∧ gr_fj [126, 127, 128] [76, 77, 78, 79] J Jₚ ∧ r = none ∧ (Iₚ 0 127 = a1) ∧ (Iₚ 0 128 = I 0 100)))) (82, [(0, .inr (.inr (some 0))), (1, .inl a1), (2, .inl v2_4), (3, .inl v3_7), (4, .inl v4_10), (5, .inl v5_10)], [], gr_sh ++ ext, gr_h I8 J9) := by
              intro n
              induction n with
              | zero => intro I8 J9 v4_10 v5_10 hn; (/-2-/first | omega | (simp only [gz_hd] at *; omega))
              | succ n ih82 =>
                intro I8 J9 v4_10 v5_10 hn hI8 FI8 FJ9 m_10 k_82
                clear ha1_7 hv2_4_7 hv3_7
                obtain ⟨ha1_10, hv2_4_10, hv3_7_10, hv4_10, hv5_10⟩ := gz_h5 m_10
                have f11 := gz_hi ((gr_b_79 hI8 (Int.toNat v4_10)))
                refine gv_run 5 true hD (pcₚ := 91) (lvₚ := [(0, .inr (.inr (some 0))), (1, .inl a1), (2, .inl v2_4), (3, .inl v3_7), (4, .inl v4_10), (5, .inl v5_10)]) (stₚ := [.inl (I8 79 (Int.toNat v4_10)), .inl v5_10]) (hₚ := gr_h I8 J9) (C := (((((True ∧ True) ∧ True) ∧ True) ∧ True) ∧ (0 ≤ v4_10 ∧ v4_10 < ((1536 : Nat) : Int)))) rfl ⟨⟨⟨⟨⟨trivial, trivial⟩, trivial⟩, trivial⟩, trivial⟩, ⟨by (/-3-/first | (have o1 := gz_sh hv4_10; omega) | (simp only [gz_hd] at *; omega)), by (/-4-/first | (have o1 := gz_sh hv4_10; omega) | (simp only [gz_hd] at *; omega))⟩⟩ ?_
                refine gv_icmp_ge (t := 120) hD rfl rfl ⟨⟨by (/-5-/first | (have o1 := gz_sh hv5_10; omega) | (simp only [gz_hd] at *; omega)), by (/-6-/first | (have o1 := gz_sh hv5_10; omega) | (simp only [gz_hd] at *; omega))⟩, ⟨by (/-7-/first | (have o1 := gz_sh f11; omega) | (simp only [gz_hd] at *; omega)), by (/-8-/first | (have o1 := gz_sh f11; omega) | (simp only [gz_hd] at *; omega))⟩⟩ (fun c12 => ?_) (fun c12 => ?_)
                · refine gv_run 2 true hD (pcₚ := 47) (lvₚ := [(3, .inl (v3_7 + 1)), (0, .inr (.inr (some 0))), (1, .inl a1), (2, .inl v2_4), (4, .inl v4_10), (5, .inl v5_10)]) (stₚ := []) (hₚ := gr_h I8 J9) (C := ((True ∧ True) ∧ True)) rfl ⟨⟨trivial, trivial⟩, trivial⟩ ?_
                  refine gv_pick [1, 2, 3, 0] rfl ?_
                  exact ih47 I8 J9 (v3_7 + 1) (by (/-9-/first | (have o1 := gz_sh hv3_7_10; have o2 := gz_sh hv5_10; omega) | (simp only [gz_hd] at *; omega))) hI8 FI8 FJ9 (by (/-10-/first | (and_intros; (omega); (omega); (have o1 := gz_sh hv2_4_10; omega); (have o1 := gz_sh hv2_4_10; omega); (have o1 := gz_sh hv3_7_10; omega); (have o1 := gz_sh hv3_7_10; omega)) | (simp only [gz_hd] at *; omega))) ⟨k_82.1, k_82.2.1, k_82.2.2⟩
                · refine gv_run 7 true hD (pcₚ := 106) (lvₚ := [(0, .inr (.inr (some 0))), (1, .inl a1), (2, .inl v2_4), (3, .inl v3_7), (4, .inl v4_10), (5, .inl v5_10)]) (stₚ := [.inl ((24 * v4_10) + v5_10), .inr (.inr (some 78))]) (hₚ := gr_h I8 J9) (C := (((((((True ∧ True) ∧ True) ∧ True) ∧ True) ∧ True) ∧ True) ∧ True)) rfl ⟨⟨⟨⟨⟨⟨⟨trivial, trivial⟩, trivial⟩, trivial⟩, trivial⟩, trivial⟩, trivial⟩, trivial⟩ ?_
                  refine gv_run 4 true hD (pcₚ := 113) (lvₚ := [(0, .inr (.inr (some 0))), (1, .inl a1), (2, .inl v2_4), (3, .inl v3_7), (4, .inl v4_10), (5, .inl v5_10)]) (stₚ := [.inl (I8 76 (Int.toNat v5_10)), .inl ((24 * v4_10) + v5_10), .inr (.inr (some 78))]) (hₚ := gr_h I8 J9) (C := ((((True ∧ True) ∧ True) ∧ True) ∧ (0 ≤ v5_10 ∧ v5_10 < ((64 : Nat) : Int)))) rfl ⟨⟨⟨⟨trivial, trivial⟩, trivial⟩, trivial⟩, ⟨by (/-11-/first | (have o1 := gz_sh hv5_10; omega) | (simp only [gz_hd] at *; omega)), by (/-12-/first | (have o1 := gz_sh hv5_10; omega) | (simp only [gz_hd] at *; omega))⟩⟩ ?_
                  have f14 := gz_hi (gw_nar_byte (x := ((I8 76 (Int.toNat v5_10)))))
                  refine gv_run 1 true hD (pcₚ := 114) (lvₚ := [(0, .inr (.inr (some 0))), (1, .inl a1), (2, .inl v2_4), (3, .inl v3_7), (4, .inl v4_10), (5, .inl v5_10)]) (stₚ := []) (hₚ := gz_up (gr_h I8 J9) 78 (Int.toNat (((24 * v4_10) + v5_10))) (.inl (((vp_nar .byte (Int32.ofInt ((I8 76 (Int.toNat v5_10))))).toInt)))) (C := (True ∧ (0 ≤ (((24 * v4_10) + v5_10)) ∧ (((24 * v4_10) + v5_10)) < ((36864 : Nat) : Int)))) rfl ⟨trivial, ⟨by (/-13-/first | (have o1 := gz_sh hv4_10; have o2 := gz_sh hv5_10; omega) | (simp only [gz_hd] at *; omega)), by (/-14-/first | (have o1 := gz_sh f11; have o2 := gz_sh hv4_10; omega) | (simp only [gz_hd] at *; omega))⟩⟩ ?_
                  refine gr_st hI8 FI8 rfl rfl ⟨⟨by show (-128) ≤ _; (/-15-/first | (have o1 := gz_sh f14; omega) | (simp only [gz_hd] at *; omega)), by show _ ≤ 127; (/-16-/first | (have o1 := gz_sh f14; omega) | (simp only [gz_hd] at *; omega))⟩, trivial⟩ (fun I15 hI15 FI15 q16 p16 => ?_)
                  refine gv_run 2 true hD (pcₚ := 82) (lvₚ := [(5, .inl (v5_10 + 1)), (0, .inr (.inr (some 0))), (1, .inl a1), (2, .inl v2_4), (3, .inl v3_7), (4, .inl v4_10)]) (stₚ := []) (hₚ := gr_h I15 J9) (C := ((True ∧ True) ∧ True)) rfl ⟨⟨trivial, trivial⟩, trivial⟩ ?_
                  refine gv_pick [1, 2, 3, 4, 5, 0] rfl ?_
                  exact ih82 I15 J9 v4_10 (v5_10 + 1) (by (/-17-/first | (have o1 := gz_sh f11; have o2 := gz_sh hv5_10; omega) | (simp only [gz_hd] at *; omega))) hI15 FI15 FJ9 (by (/-18-/first | (and_intros; (omega); (omega); (have o1 := gz_sh hv2_4_10; omega); (have o1 := gz_sh hv2_4_10; omega); (have o1 := gz_sh hv3_7_10; omega); (have o1 := gz_sh hv3_7_10; omega); (have o1 := gz_sh hv4_10; omega); (have o1 := gz_sh hv4_10; omega); (have o1 := gz_sh hv5_10; omega); (have o1 := gz_sh f11; omega)) | (simp only [gz_hd] at *; omega))) ⟨(p16 0 127 (fun q => absurd q.1 (by first | exact gz_ne rfl | decide))).trans k_82.1, (p16 0 128 (fun q => absurd q.1 (by first | exact gz_ne rfl | decide))).trans k_82.2.1, k_82.2.2⟩
            refine gv_run 4 true hD (pcₚ := 51) (lvₚ := [(0, .inr (.inr (some 0))), (1, .inl a1), (2, .inl v2_4), (3, .inl v3_7)]) (stₚ := [.inl v2_4, .inl a1, .inr (.inr (some 0)), .inl v3_7]) (hₚ := gr_h I5 J6) (C := ((((True ∧ True) ∧ True) ∧ True) ∧ True)) rfl ⟨⟨⟨⟨trivial, trivial⟩, trivial⟩, trivial⟩, trivial⟩ ?_
            obtain ⟨r17, h17, E17, P17⟩ := r_cellsOf (ws0 := ws0) (tb := tb) hws htb ext I5 J6 hI5 a1 v2_4 ⟨by (/-19-/first | omega | (simp only [gz_hd] at *; omega)), by (/-20-/first | omega | (simp only [gz_hd] at *; omega))⟩ ⟨by (/-21-/first | (have o1 := gz_sh hv2_4_7; omega) | (simp only [gz_hd] at *; omega)), by (/-22-/first | (have o1 := gz_sh hv2_4_7; omega) | (simp only [gz_hd] at *; omega))⟩ 
            obtain ⟨rfl, ⟨z17, rfl, q17⟩⟩ := P17
            replace q17 := gz_hi q17
            refine gv_callV hD rfl (As := [.inl a1, .inl v2_4]) (st := [.inl v3_7]) rfl (by decide) rfl rfl (gr_lV hws rfl) (Nat.le_of_ble_eq_true rfl) (gz_Ev_mono (d := 1) (by decide) E17) ?_
            show gv_X _ _ (54, [(0, .inr (.inr (some 0))), (1, .inl a1), (2, .inl v2_4), (3, .inl v3_7)], [.inl z17, .inl v3_7], gr_sh ++ ext, gr_h I5 J6)
            refine gv_icmp_ge (t := 126) hD rfl rfl ⟨⟨by (/-23-/first | (have o1 := gz_sh hv3_7; omega) | (simp only [gz_hd] at *; omega)), by (/-24-/first | (have o1 := gz_sh hv3_7; omega) | (simp only [gz_hd] at *; omega))⟩, ⟨by (/-25-/first | (have o1 := gz_sh q17; omega) | (simp only [gz_hd] at *; omega)), by (/-26-/first | (have o1 := gz_sh q17; omega) | (simp only [gz_hd] at *; omega))⟩⟩ (fun c18 => ?_) (fun c18 => ?_)
            · refine gv_run 2 true hD (pcₚ := 35) (lvₚ := [(2, .inl (v2_4 + 1)), (0, .inr (.inr (some 0))), (1, .inl a1), (3, .inl v3_7)]) (stₚ := []) (hₚ := gr_h I5 J6) (C := ((True ∧ True) ∧ True)) rfl ⟨⟨trivial, trivial⟩, trivial⟩ ?_
              refine gv_pick [1, 2, 0] rfl ?_
              exact ih35 I5 J6 (v2_4 + 1) (by (/-27-/first | (have o1 := gz_sh hv2_4_7; have o2 := gz_sh hv3_7; omega) | (simp only [gz_hd] at *; omega))) hI5 FI5 FJ6 (by (/-28-/first | (and_intros; (omega); (omega); (have o1 := gz_sh hv2_4_7; omega); (have o1 := gz_sh hv2_4_7; omega)) | (simp only [gz_hd] at *; omega))) ⟨k_47.1, k_47.2.1⟩
            · refine gv_run 7 true hD (pcₚ := 66) (lvₚ := [(4, .inl ((24 * v2_4) + v3_7)), (0, .inr (.inr (some 0))), (1, .inl a1), (2, .inl v2_4), (3, .inl v3_7)]) (stₚ := [.inr (.inr (some 0))]) (hₚ := gr_h I5 J6) (C := (((((((True ∧ True) ∧ True) ∧ True) ∧ True) ∧ True) ∧ True) ∧ True)) rfl ⟨⟨⟨⟨⟨⟨⟨trivial, trivial⟩, trivial⟩, trivial⟩, trivial⟩, trivial⟩, trivial⟩, trivial⟩ ?_
              refine gv_run 6 true hD (pcₚ := 75) (lvₚ := [(4, .inl ((24 * v2_4) + v3_7)), (0, .inr (.inr (some 0))), (1, .inl a1), (2, .inl v2_4), (3, .inl v3_7)]) (stₚ := [.inl v3_7, .inl v2_4, .inl a1, .inr (.inr (some 0)), .inl ((24 * v2_4) + v3_7), .inr (.inr (some 79))]) (hₚ := gr_h I5 J6) (C := ((((((True ∧ True) ∧ True) ∧ True) ∧ True) ∧ True) ∧ True)) rfl ⟨⟨⟨⟨⟨⟨trivial, trivial⟩, trivial⟩, trivial⟩, trivial⟩, trivial⟩, trivial⟩ ?_
              obtain ⟨r19, h19, E19, P19⟩ := r_joined (ws0 := ws0) (tb := tb) hws htb ext I5 J6 hI5 a1 v2_4 v3_7 ⟨by (/-29-/first | omega | (simp only [gz_hd] at *; omega)), by (/-30-/first | omega | (simp only [gz_hd] at *; omega))⟩ ⟨by (/-31-/first | (have o1 := gz_sh hv2_4_7; omega) | (simp only [gz_hd] at *; omega)), by (/-32-/first | (have o1 := gz_sh hv2_4_7; omega) | (simp only [gz_hd] at *; omega))⟩ ⟨by (/-33-/first | (have o1 := gz_sh hv3_7; omega) | (simp only [gz_hd] at *; omega)), by (/-34-/first | (have o1 := gz_sh q17; omega) | (simp only [gz_hd] at *; omega))⟩ 
              obtain ⟨I20, J21, rfl, hI20, g19, k19, ⟨z19, rfl, q19⟩⟩ := P19
              replace q19 := gz_hi q19
              have FI20 := gr_frt FI5 g19 rfl rfl
              have FJ21 := gr_fjt FJ6 k19 rfl rfl
              refine gv_callV hD rfl (As := [.inl a1, .inl v2_4, .inl v3_7]) (st := [.inl ((24 * v2_4) + v3_7), .inr (.inr (some 79))]) rfl (by decide) rfl rfl (gr_lV hws rfl) (Nat.le_of_ble_eq_true rfl) (gz_Ev_mono (d := 5) (by decide) E19) ?_
              show gv_X _ _ (78, [(4, .inl ((24 * v2_4) + v3_7)), (0, .inr (.inr (some 0))), (1, .inl a1), (2, .inl v2_4), (3, .inl v3_7)], [.inl z19, .inl ((24 * v2_4) + v3_7), .inr (.inr (some 79))], gr_sh ++ ext, gr_h I20 J21)
              refine gv_run 1 true hD (pcₚ := 79) (lvₚ := [(4, .inl ((24 * v2_4) + v3_7)), (0, .inr (.inr (some 0))), (1, .inl a1), (2, .inl v2_4), (3, .inl v3_7)]) (stₚ := []) (hₚ := gz_up (gr_h I20 J21) 79 (Int.toNat (((24 * v2_4) + v3_7))) (.inl z19)) (C := (True ∧ (0 ≤ (((24 * v2_4) + v3_7)) ∧ (((24 * v2_4) + v3_7)) < ((1536 : Nat) : Int)))) rfl ⟨trivial, ⟨by (/-35-/first | (have o1 := gz_sh hv2_4_7; have o2 := gz_sh hv3_7; omega) | (simp only [gz_hd] at *; omega)), by (/-36-/first | (have o1 := gz_sh hv2_4_7; have o2 := gz_sh q17; omega) | (simp only [gz_hd] at *; omega))⟩⟩ ?_
              refine gr_st hI20 FI20 rfl rfl ⟨⟨by show (-1) ≤ _; (/-37-/first | (have o1 := gz_sh q19; omega) | (simp only [gz_hd] at *; omega)), by show _ ≤ 24; (/-38-/first | (have o1 := gz_sh q19; omega) | (simp only [gz_hd] at *; omega))⟩, trivial⟩ (fun I22 hI22 FI22 q23 p23 => ?_)
              refine gv_run 2 true hD (pcₚ := 82) (lvₚ := [(5, .inl 0), (4, .inl ((24 * v2_4) + v3_7)), (0, .inr (.inr (some 0))), (1, .inl a1), (2, .inl v2_4), (3, .inl v3_7)]) (stₚ := []) (hₚ := gr_h I22 J21) (C := ((True ∧ True) ∧ True)) rfl ⟨⟨trivial, trivial⟩, trivial⟩ ?_
              refine gv_pick [2, 3, 4, 5, 1, 0] rfl ?_
              exact L82 _ I22 J21 (((24 * v2_4) + v3_7)) 0 (Nat.lt_succ_self _) hI22 FI22 FJ21 (by (/-39-/first | (and_intros; (omega); (omega); (have o1 := gz_sh hv2_4_7; omega); (have o1 := gz_sh hv2_4_7; omega); (have o1 := gz_sh hv3_7; omega); (have o1 := gz_sh q17; omega); (have o1 := gz_sh hv2_4_7; have o2 := gz_sh hv3_7; omega); (have o1 := gz_sh hv2_4_7; have o2 := gz_sh q17; omega); (omega); (omega)) | (simp only [gz_hd] at *; omega))) ⟨(p23 0 127 (fun q => absurd q.1 (by first | exact gz_ne rfl | decide))).trans ((g19 0 127 rfl).trans k_47.1), (p23 0 128 (fun q => absurd q.1 (by first | exact gz_ne rfl | decide))).trans ((g19 0 128 rfl).trans k_47.2.1), k_47.2.2⟩
        have w_18 : I2 18 (Int.toNat a1) = I 18 (Int.toNat a1) := FI2 18 _ rfl
        have f24 := gz_hi ((gr_b_18 hI2 (Int.toNat a1)))
        refine gv_run 5 true hD (pcₚ := 42) (lvₚ := [(0, .inr (.inr (some 0))), (1, .inl a1), (2, .inl v2_4)]) (stₚ := [.inl (I2 18 (Int.toNat a1)), .inl v2_4]) (hₚ := gr_h I2 J3) (C := (((((True ∧ True) ∧ True) ∧ True) ∧ True) ∧ (0 ≤ a1 ∧ a1 < ((8 : Nat) : Int)))) rfl ⟨⟨⟨⟨⟨trivial, trivial⟩, trivial⟩, trivial⟩, trivial⟩, ⟨by (/-40-/first | omega | (simp only [gz_hd] at *; omega)), by (/-41-/first | omega | (simp only [gz_hd] at *; omega))⟩⟩ ?_
        refine gv_icmp_ge (t := 132) hD rfl rfl ⟨⟨by (/-42-/first | (have o1 := gz_sh hv2_4; omega) | (simp only [gz_hd] at *; omega)), by (/-43-/first | (have o1 := gz_sh hv2_4; omega) | (simp only [gz_hd] at *; omega))⟩, ⟨by (/-44-/first | (have o1 := gz_sh f24; omega) | (simp only [gz_hd] at *; omega)), by (/-45-/first | (have o1 := gz_sh f24; omega) | (simp only [gz_hd] at *; omega))⟩⟩ (fun c25 => ?_) (fun c25 => ?_)
        · exact gv_vret hD rfl ⟨I2, J3, rfl, hI2, FI2, FJ3, rfl, k_35.1, k_35.2⟩
        · refine gv_run 2 true hD (pcₚ := 47) (lvₚ := [(3, .inl 0), (0, .inr (.inr (some 0))), (1, .inl a1), (2, .inl v2_4)]) (stₚ := []) (hₚ := gr_h I2 J3) (C := ((True ∧ True) ∧ True)) rfl ⟨⟨trivial, trivial⟩, trivial⟩ ?_
          refine gv_pick [1, 2, 3, 0] rfl ?_
          exact L47 _ I2 J3 0 (Nat.lt_succ_self _) hI2 FI2 FJ3 (by (/-46-/first | (and_intros; (omega); (omega); (have o1 := gz_sh hv2_4; omega); (have o1 := gz_sh f24; omega); (omega); (omega)) | (simp only [gz_hd] at *; omega))) ⟨k_35.1, k_35.2, by (/-47-/first | omega | (simp only [gz_hd] at *; omega))⟩
    refine gv_run 3 true hD (pcₚ := 25) (lvₚ := [(0, .inr (.inr (some 0))), (1, .inl a1)]) (stₚ := []) (hₚ := gz_up (gr_h I J) 0 127 (.inl a1)) (C := (((True ∧ True) ∧ True) ∧ True)) rfl ⟨⟨⟨trivial, trivial⟩, trivial⟩, trivial⟩ ?_
    refine gr_st hI FI rfl rfl ⟨⟨by show (-1) ≤ _; (/-48-/first | omega | (simp only [gz_hd] at *; omega)), by show _ ≤ 7; (/-49-/first | omega | (simp only [gz_hd] at *; omega))⟩, trivial⟩ (fun I26 hI26 FI26 q27 p27 => ?_)
    have f28 := gz_hi ((gr_b_0_100 hI26))
    refine gv_run 3 true hD (pcₚ := 30) (lvₚ := [(0, .inr (.inr (some 0))), (1, .inl a1)]) (stₚ := [.inl (I26 0 100), .inr (.inr (some 0))]) (hₚ := gr_h I26 J) (C := (((True ∧ True) ∧ True) ∧ True)) rfl ⟨⟨⟨trivial, trivial⟩, trivial⟩, trivial⟩ ?_
    refine gv_run 1 true hD (pcₚ := 33) (lvₚ := [(0, .inr (.inr (some 0))), (1, .inl a1)]) (stₚ := []) (hₚ := gz_up (gr_h I26 J) 0 128 (.inl (I26 0 100))) (C := (True ∧ True)) rfl ⟨trivial, trivial⟩ ?_
    refine gr_st hI26 FI26 rfl rfl ⟨⟨by show (-1) ≤ _; (/-50-/first | (have o1 := gz_sh f28; omega) | (simp only [gz_hd] at *; omega)), by show _ ≤ 1000000; (/-51-/first | (have o1 := gz_sh f28; omega) | (simp only [gz_hd] at *; omega))⟩, trivial⟩ (fun I29 hI29 FI29 q30 p30 => ?_)
    refine gv_run 2 true hD (pcₚ := 35) (lvₚ := [(2, .inl 0), (0, .inr (.inr (some 0))), (1, .inl a1)]) (stₚ := []) (hₚ := gr_h I29 J) (C := ((True ∧ True) ∧ True)) rfl ⟨⟨trivial, trivial⟩, trivial⟩ ?_
    refine gv_pick [1, 2, 0] rfl ?_
    exact L35 _ I29 J 0 (Nat.lt_succ_self _) hI29 FI29 FJ (by (/-52-/first | (and_intros <;> omega) | (simp only [gz_hd] at *; omega))) ⟨(p30 0 127 (by decide)).trans q27, q30.trans (p27 0 100 (by decide))⟩
  have f31 := gz_hi ((gr_b_0_127 hI))
  refine gv_run 3 true hD (pcₚ := 5) (lvₚ := [(0, .inr (.inr (some 0))), (1, .inl a1)]) (stₚ := [.inl a1, .inl (I 0 127)]) (hₚ := gr_h I J) (C := (((True ∧ True) ∧ True) ∧ True)) rfl ⟨⟨⟨trivial, trivial⟩, trivial⟩, trivial⟩ ?_
  refine gv_icmp_ne (t := 20) hD rfl rfl ⟨⟨by (/-53-/first | (have o1 := gz_sh f31; omega) | (simp only [gz_hd] at *; omega)), by (/-54-/first | (have o1 := gz_sh f31; omega) | (simp only [gz_hd] at *; omega))⟩, ⟨by (/-55-/first | omega | (simp only [gz_hd] at *; omega)), by (/-56-/first | omega | (simp only [gz_hd] at *; omega))⟩⟩ (fun c32 => ?_) (fun c32 => ?_)
  · exact L20 (by (/-57-/first | omega | (simp only [gz_hd] at *; omega)))
  · have f33 := gz_hi ((gr_b_0_128 hI))
    have f34 := gz_hi ((gr_b_0_100 hI))
    refine gv_run 4 true hD (pcₚ := 16) (lvₚ := [(0, .inr (.inr (some 0))), (1, .inl a1)]) (stₚ := [.inl (I 0 100), .inl (I 0 128)]) (hₚ := gr_h I J) (C := ((((True ∧ True) ∧ True) ∧ True) ∧ True)) rfl ⟨⟨⟨⟨trivial, trivial⟩, trivial⟩, trivial⟩, trivial⟩ ?_
    refine gv_icmp_ne (t := 20) hD rfl rfl ⟨⟨by (/-58-/first | (have o1 := gz_sh f33; omega) | (simp only [gz_hd] at *; omega)), by (/-59-/first | (have o1 := gz_sh f33; omega) | (simp only [gz_hd] at *; omega))⟩, ⟨by (/-60-/first | (have o1 := gz_sh f34; omega) | (simp only [gz_hd] at *; omega)), by (/-61-/first | (have o1 := gz_sh f34; omega) | (simp only [gz_hd] at *; omega))⟩⟩ (fun c35 => ?_) (fun c35 => ?_)
    · exact L20 (by (/-62-/first | omega | (simp only [gz_hd] at *; omega)))
    · exact gv_vret hD rfl ⟨I, J, rfl, hI, FI, FJ, rfl, by (/-63-/first | omega | (simp only [gz_hd] at *; omega)), by (/-64-/first | omega | (simp only [gz_hd] at *; omega))⟩
set_option maxHeartbeats 8000000 in
set_option maxRecDepth 100000 in
theorem r_forms_p {ws0 : List Cond} {tb : String → gz_T} (hws : ∀ w ∈ gr_ws, w ∈ ws0) (htb : tb RX13 = gr_T) (ext : gz_Sh) (I : gr_I) (J : gr_J) (hI : gr_Inv I) (a1 : Int) (ha1 : 0 ≤ a1 ∧ a1 ≤ 7) (y0 : fo_GR I a1) (y1 : I 0 127 = a1 → I 0 128 = I 0 100 → fo_FR I I a1) : ∃ r hₚ, gz_Ev ws0 tb 6 (yX13_forms, cX13_forms, 6, none) [.inr (.inr (some 0)), .inl a1] (gr_sh ++ ext) (gr_h I J) r (gr_sh ++ ext) hₚ 0 0 ∧ (∃ (Iₚ : gr_I) (Jₚ : gr_J), hₚ = gr_h Iₚ Jₚ ∧ gr_Inv Iₚ ∧ gr_fr [126, 127, 128] [76, 77, 78, 79] I Iₚ ∧ gr_fj [126, 127, 128] [76, 77, 78, 79] J Jₚ ∧ r = none ∧ (Iₚ 0 127 = a1) ∧ (Iₚ 0 128 = I 0 100) ∧ fo_FR I Iₚ a1) := by
  have FI : gr_fr [126, 127, 128] [76, 77, 78, 79] I I := fun _ _ _ => rfl
  have FJ : gr_fj [126, 127, 128] [76, 77, 78, 79] J J := fun _ _ _ => rfl
  have hb9 : ∀ w : Int, fo_cr I a1 w ≤ 24 := fun w => (gr_b_31 hI _).2
  have hD : gv_D (gr_E ws0 tb 5 (yX13_forms, cX13_forms, 6, none) kX13_forms) := gq_of oX13_forms
  refine gr_ev (d := 5) (l := kX13_forms) (Po := fun r hₚ => (∃ (Iₚ : gr_I) (Jₚ : gr_J), hₚ = gr_h Iₚ Jₚ ∧ gr_Inv Iₚ ∧ gr_fr [126, 127, 128] [76, 77, 78, 79] I Iₚ ∧ gr_fj [126, 127, 128] [76, 77, 78, 79] J Jₚ ∧ r = none ∧ (Iₚ 0 127 = a1) ∧ (Iₚ 0 128 = I 0 100) ∧ fo_FR I Iₚ a1)) htb rfl (Nat.le_of_ble_eq_true rfl) ?_
  have L20 : ((0 ≤ a1 ∧ a1 ≤ 7)) → gv_X (gr_E ws0 tb 5 (yX13_forms, cX13_forms, 6, none) kX13_forms) (gv_Q cX13_forms none (gr_sh ++ ext) (fun r hₚ => (∃ (Iₚ : gr_I) (Jₚ : gr_J), hₚ = gr_h Iₚ Jₚ ∧ gr_Inv Iₚ ∧ gr_fr [126, 127, 128] [76, 77, 78, 79] I Iₚ ∧ gr_fj [126, 127, 128] [76, 77, 78, 79] J Jₚ ∧ r = none ∧ (Iₚ 0 127 = a1) ∧ (Iₚ 0 128 = I 0 100) ∧ fo_FR I Iₚ a1))) (20, [(0, .inr (.inr (some 0))), (1, .inl a1)], [], gr_sh ++ ext, gr_h I J) := by
    intro m_1
    have ha1_1 := m_1
    have L35 : ∀ (n : Nat) (I2 : gr_I) (J3 : gr_J) (v2_4 : Int), (65 - v2_4).toNat < n → gr_Inv I2 → gr_fr [126, 127, 128] [76, 77, 78, 79] I I2 → gr_fj [126, 127, 128] [76, 77, 78, 79] J J3 → ((0 ≤ a1 ∧ a1 ≤ 7) ∧ (0 ≤ v2_4 ∧ v2_4 ≤ 64)) → (fo_DR I I2 a1 v2_4 0 ∧ I2 0 127 = a1 ∧ I2 0 128 = I 0 100) → gv_X (gr_E ws0 tb 5 (yX13_forms, cX13_forms, 6, none) kX13_forms) (gv_Q cX13_forms none (gr_sh ++ ext) (fun r hₚ => (∃ (Iₚ : gr_I) (Jₚ : gr_J), hₚ = gr_h Iₚ Jₚ ∧ gr_Inv Iₚ ∧ gr_fr [126, 127, 128] [76, 77, 78, 79] I Iₚ ∧ gr_fj [126, 127, 128] [76, 77, 78, 79] J Jₚ ∧ r = none ∧ (Iₚ 0 127 = a1) ∧ (Iₚ 0 128 = I 0 100) ∧ fo_FR I Iₚ a1))) (35, [(0, .inr (.inr (some 0))), (1, .inl a1), (2, .inl v2_4)], [], gr_sh ++ ext, gr_h I2 J3) := by
      intro n
      induction n with
      | zero => intro I2 J3 v2_4 hn; omega
      | succ n ih35 =>
        intro I2 J3 v2_4 hn hI2 FI2 FJ3 m_4 k_35
        clear ha1_1
        obtain ⟨ha1_4, hv2_4⟩ := m_4
        have L47 : ∀ (n : Nat) (I5 : gr_I) (J6 : gr_J) (v3_7 : Int), (25 - v3_7).toNat < n → gr_Inv I5 → gr_fr [126, 127, 128] [76, 77, 78, 79] I I5 → gr_fj [126, 127, 128] [76, 77, 78, 79] J J6 → ((0 ≤ a1 ∧ a1 ≤ 7) ∧ (0 ≤ v2_4 ∧ v2_4 ≤ 63) ∧ (0 ≤ v3_7 ∧ v3_7 ≤ 24)) → (fo_DR I I5 a1 v2_4 v3_7 ∧ I5 0 127 = a1 ∧ I5 0 128 = I 0 100 ∧ v2_4 < I 18 (Int.toNat a1)) → gv_X (gr_E ws0 tb 5 (yX13_forms, cX13_forms, 6, none) kX13_forms) (gv_Q cX13_forms none (gr_sh ++ ext) (fun r hₚ => (∃ (Iₚ : gr_I) (Jₚ : gr_J), hₚ = gr_h Iₚ Jₚ ∧ gr_Inv Iₚ ∧ gr_fr [126, 127, 128] [76, 77, 78, 79] I Iₚ ∧ gr_fj [126, 127, 128] [76, 77, 78, 79] J Jₚ ∧ r = none ∧ (Iₚ 0 127 = a1) ∧ (Iₚ 0 128 = I 0 100) ∧ fo_FR I Iₚ a1))) (47, [(0, .inr (.inr (some 0))), (1, .inl a1), (2, .inl v2_4), (3, .inl v3_7)], [], gr_sh ++ ext, gr_h I5 J6) := by
          intro n
          induction n with
          | zero => intro I5 J6 v3_7 hn; omega
          | succ n ih47 =>
            intro I5 J6 v3_7 hn hI5 FI5 FJ6 m_7 k_47
            clear ha1_4 hv2_4
            obtain ⟨ha1_7, hv2_4_7, hv3_7⟩ := m_7
            have L82 : ∀ (n : Nat) (I8 : gr_I) (J9 : gr_J) (v4_10 : Int) (v5_10 : Int), (25 - v5_10).toNat < n → gr_Inv I8 → gr_fr [126, 127, 128] [76, 77, 78, 79] I I8 → gr_fj [126, 127, 128] [76, 77, 78, 79] J J9 → ((0 ≤ a1 ∧ a1 ≤ 7) ∧ (0 ≤ v2_4 ∧ v2_4 ≤ 63) ∧ (0 ≤ v3_7 ∧ v3_7 ≤ 23) ∧ (0 ≤ v4_10 ∧ v4_10 ≤ 1535) ∧ (0 ≤ v5_10 ∧ v5_10 ≤ 24)) → (fo_L8 I I8 a1 v2_4 v3_7 v4_10 v5_10 ∧ I8 0 127 = a1 ∧ I8 0 128 = I 0 100 ∧ v2_4 < I 18 (Int.toNat a1)) → gv_X (gr_E ws0 tb 5 (yX13_forms, cX13_forms, 6, none) kX13_forms) (gv_Q cX13_forms none (gr_sh ++ ext) (fun r hₚ => (∃ (Iₚ : gr_I) (Jₚ : gr_J), hₚ = gr_h Iₚ Jₚ ∧ gr_Inv Iₚ ∧ gr_fr [126, 127, 128] [76, 77, 78, 79] I Iₚ ∧ gr_fj [126, 127, 128] [76, 77, 78, 79] J Jₚ ∧ r = none ∧ (Iₚ 0 127 = a1) ∧ (Iₚ 0 128 = I 0 100) ∧ fo_FR I Iₚ a1))) (82, [(0, .inr (.inr (some 0))), (1, .inl a1), (2, .inl v2_4), (3, .inl v3_7), (4, .inl v4_10), (5, .inl v5_10)], [], gr_sh ++ ext, gr_h I8 J9) := by
              intro n
              induction n with
              | zero => intro I8 J9 v4_10 v5_10 hn; omega
              | succ n ih82 =>
                intro I8 J9 v4_10 v5_10 hn hI8 FI8 FJ9 m_10 k_82
                clear ha1_7 hv2_4_7 hv3_7
                obtain ⟨ha1_10, hv2_4_10, hv3_7_10, hv4_10, hv5_10⟩ := m_10
                have f11 := (gr_b_79 hI8 (Int.toNat v4_10))
                refine gv_run 5 true hD (pcₚ := 91) (lvₚ := [(0, .inr (.inr (some 0))), (1, .inl a1), (2, .inl v2_4), (3, .inl v3_7), (4, .inl v4_10), (5, .inl v5_10)]) (stₚ := [.inl (I8 79 (Int.toNat v4_10)), .inl v5_10]) (hₚ := gr_h I8 J9) (C := (((((True ∧ True) ∧ True) ∧ True) ∧ True) ∧ (0 ≤ v4_10 ∧ v4_10 < ((1536 : Nat) : Int)))) rfl ⟨⟨⟨⟨⟨trivial, trivial⟩, trivial⟩, trivial⟩, trivial⟩, ⟨by omega, by omega⟩⟩ ?_
                refine gv_icmp_ge (t := 120) hD rfl rfl ⟨⟨by omega, by omega⟩, ⟨by omega, by omega⟩⟩ (fun c12 => ?_) (fun c12 => ?_)
                · refine gv_run 2 true hD (pcₚ := 47) (lvₚ := [(3, .inl (v3_7 + 1)), (0, .inr (.inr (some 0))), (1, .inl a1), (2, .inl v2_4), (4, .inl v4_10), (5, .inl v5_10)]) (stₚ := []) (hₚ := gr_h I8 J9) (C := ((True ∧ True) ∧ True)) rfl ⟨⟨trivial, trivial⟩, trivial⟩ ?_
                  refine gv_pick [1, 2, 3, 0] rfl ?_
                  exact ih47 I8 J9 (v3_7 + 1) (by omega) hI8 FI8 FJ9 (by omega) ⟨fo_L8_e k_82.1 (by omega), k_82.2.1, k_82.2.2.1, k_82.2.2.2⟩
                · refine gv_run 7 true hD (pcₚ := 106) (lvₚ := [(0, .inr (.inr (some 0))), (1, .inl a1), (2, .inl v2_4), (3, .inl v3_7), (4, .inl v4_10), (5, .inl v5_10)]) (stₚ := [.inl ((24 * v4_10) + v5_10), .inr (.inr (some 78))]) (hₚ := gr_h I8 J9) (C := (((((((True ∧ True) ∧ True) ∧ True) ∧ True) ∧ True) ∧ True) ∧ True)) rfl ⟨⟨⟨⟨⟨⟨⟨trivial, trivial⟩, trivial⟩, trivial⟩, trivial⟩, trivial⟩, trivial⟩, trivial⟩ ?_
                  have f13 := (gr_b_76 hI8 (Int.toNat v5_10))
                  refine gv_run 4 true hD (pcₚ := 113) (lvₚ := [(0, .inr (.inr (some 0))), (1, .inl a1), (2, .inl v2_4), (3, .inl v3_7), (4, .inl v4_10), (5, .inl v5_10)]) (stₚ := [.inl (I8 76 (Int.toNat v5_10)), .inl ((24 * v4_10) + v5_10), .inr (.inr (some 78))]) (hₚ := gr_h I8 J9) (C := ((((True ∧ True) ∧ True) ∧ True) ∧ (0 ≤ v5_10 ∧ v5_10 < ((64 : Nat) : Int)))) rfl ⟨⟨⟨⟨trivial, trivial⟩, trivial⟩, trivial⟩, ⟨by omega, by omega⟩⟩ ?_
                  have f14 := gw_nar_byte (x := ((I8 76 (Int.toNat v5_10))))
                  refine gv_run 1 true hD (pcₚ := 114) (lvₚ := [(0, .inr (.inr (some 0))), (1, .inl a1), (2, .inl v2_4), (3, .inl v3_7), (4, .inl v4_10), (5, .inl v5_10)]) (stₚ := []) (hₚ := gz_up (gr_h I8 J9) 78 (Int.toNat (((24 * v4_10) + v5_10))) (.inl (((vp_nar .byte (Int32.ofInt ((I8 76 (Int.toNat v5_10))))).toInt)))) (C := (True ∧ (0 ≤ (((24 * v4_10) + v5_10)) ∧ (((24 * v4_10) + v5_10)) < ((36864 : Nat) : Int)))) rfl ⟨trivial, ⟨by omega, by omega⟩⟩ ?_
                  refine gr_st hI8 FI8 rfl rfl ⟨⟨by show (-128) ≤ _; omega, by show _ ≤ 127; omega⟩, trivial⟩ (fun I15 hI15 FI15 q16 p16 => ?_)
                  refine gv_run 2 true hD (pcₚ := 82) (lvₚ := [(5, .inl (v5_10 + 1)), (0, .inr (.inr (some 0))), (1, .inl a1), (2, .inl v2_4), (3, .inl v3_7), (4, .inl v4_10)]) (stₚ := []) (hₚ := gr_h I15 J9) (C := ((True ∧ True) ∧ True)) rfl ⟨⟨trivial, trivial⟩, trivial⟩ ?_
                  refine gv_pick [1, 2, 3, 4, 5, 0] rfl ?_
                  exact ih82 I15 J9 v4_10 (v5_10 + 1) (by omega) hI15 FI15 FJ9 (by omega) ⟨fo_L8_s k_82.1 (by omega) (by omega) hb9 (fun j => (gr_b_79 hI8 j).2) (by omega) (by omega) rfl p16 (q16.trans (gc_nar ⟨by omega, by omega⟩)), (p16 0 127 (fun q => absurd q.1 (by decide))).trans k_82.2.1, (p16 0 128 (fun q => absurd q.1 (by decide))).trans k_82.2.2.1, k_82.2.2.2⟩
            refine gv_run 4 true hD (pcₚ := 51) (lvₚ := [(0, .inr (.inr (some 0))), (1, .inl a1), (2, .inl v2_4), (3, .inl v3_7)]) (stₚ := [.inl v2_4, .inl a1, .inr (.inr (some 0)), .inl v3_7]) (hₚ := gr_h I5 J6) (C := ((((True ∧ True) ∧ True) ∧ True) ∧ True)) rfl ⟨⟨⟨⟨trivial, trivial⟩, trivial⟩, trivial⟩, trivial⟩ ?_
            obtain ⟨r17, h17, E17, P17⟩ := r_cellsOf_z (ws0 := ws0) (tb := tb) hws htb ext I5 J6 hI5 a1 v2_4 ⟨by omega, by omega⟩ ⟨by omega, by omega⟩ 
            obtain ⟨rfl, ⟨z17, rfl, q17⟩⟩ := P17
            have w_9 : z17 = fo_cr I a1 v2_4 := (show z17 = fo_cr I5 a1 v2_4 from q17.2.2).trans (fo_cr_fr (fun k => FI5 37 k rfl) (fun k => FI5 31 k rfl))
            replace q17 := And.intro q17.1 q17.2.1
            refine gv_callV hD rfl (As := [.inl a1, .inl v2_4]) (st := [.inl v3_7]) rfl (by decide) rfl rfl (gr_lV hws rfl) (Nat.le_of_ble_eq_true rfl) (gz_Ev_mono (d := 1) (by decide) E17) ?_
            show gv_X _ _ (54, [(0, .inr (.inr (some 0))), (1, .inl a1), (2, .inl v2_4), (3, .inl v3_7)], [.inl z17, .inl v3_7], gr_sh ++ ext, gr_h I5 J6)
            refine gv_icmp_ge (t := 126) hD rfl rfl ⟨⟨by omega, by omega⟩, ⟨by omega, by omega⟩⟩ (fun c18 => ?_) (fun c18 => ?_)
            · refine gv_run 2 true hD (pcₚ := 35) (lvₚ := [(2, .inl (v2_4 + 1)), (0, .inr (.inr (some 0))), (1, .inl a1), (3, .inl v3_7)]) (stₚ := []) (hₚ := gr_h I5 J6) (C := ((True ∧ True) ∧ True)) rfl ⟨⟨trivial, trivial⟩, trivial⟩ ?_
              refine gv_pick [1, 2, 0] rfl ?_
              exact ih35 I5 J6 (v2_4 + 1) (by omega) hI5 FI5 FJ6 (by omega) ⟨fo_DR_n k_47.1 (by omega), k_47.2.1, k_47.2.2.1⟩
            · refine gv_run 7 true hD (pcₚ := 66) (lvₚ := [(4, .inl ((24 * v2_4) + v3_7)), (0, .inr (.inr (some 0))), (1, .inl a1), (2, .inl v2_4), (3, .inl v3_7)]) (stₚ := [.inr (.inr (some 0))]) (hₚ := gr_h I5 J6) (C := (((((((True ∧ True) ∧ True) ∧ True) ∧ True) ∧ True) ∧ True) ∧ True)) rfl ⟨⟨⟨⟨⟨⟨⟨trivial, trivial⟩, trivial⟩, trivial⟩, trivial⟩, trivial⟩, trivial⟩, trivial⟩ ?_
              refine gv_run 6 true hD (pcₚ := 75) (lvₚ := [(4, .inl ((24 * v2_4) + v3_7)), (0, .inr (.inr (some 0))), (1, .inl a1), (2, .inl v2_4), (3, .inl v3_7)]) (stₚ := [.inl v3_7, .inl v2_4, .inl a1, .inr (.inr (some 0)), .inl ((24 * v2_4) + v3_7), .inr (.inr (some 79))]) (hₚ := gr_h I5 J6) (C := ((((((True ∧ True) ∧ True) ∧ True) ∧ True) ∧ True) ∧ True)) rfl ⟨⟨⟨⟨⟨⟨trivial, trivial⟩, trivial⟩, trivial⟩, trivial⟩, trivial⟩, trivial⟩ ?_
              have v_9 : ∀ a k : Nat, (26 ≤ a ∧ a ≤ 30) ∨ a = 51 → I5 a k = I a k := fun a k h => by
                have c : a = 26 ∨ a = 27 ∨ a = 28 ∨ a = 29 ∨ a = 30 ∨ a = 51 := by omega
                rcases c with c | c | c | c | c | c <;> subst c <;> exact FI5 _ k rfl
              have x_9 : ∀ a k : Nat, (33 ≤ a ∧ a ≤ 38) ∨ a = 51 → I5 a k = I a k := fun a k h => by
                have c : a = 33 ∨ a = 34 ∨ a = 35 ∨ a = 36 ∨ a = 37 ∨ a = 38 ∨ a = 51 := by omega
                rcases c with c | c | c | c | c | c | c <;> subst c <;> exact FI5 _ k rfl
              obtain ⟨r19, h19, E19, P19⟩ := r_joined_p (ws0 := ws0) (tb := tb) hws htb ext I5 J6 hI5 a1 v2_4 v3_7 ⟨by omega, by omega⟩ ⟨by omega, by omega⟩ ⟨by omega, by omega⟩ (gs_SV_eq y0.1 v_9 (fun k => FI5 15 k rfl) (fun k => FI5 16 k rfl) (FI5 0 59 rfl)) (gs_JO_fr (y0.2 v2_4 v3_7 (by omega) k_47.2.2.2 (by omega) (by omega)) x_9 (FI5 0 59 rfl) (FI5 0 42 rfl))
              obtain ⟨I20, J21, rfl, hI20, g19, k19, ⟨z19, rfl, q19⟩⟩ := P19
              have o_9 : fo_out (fo_Ur I a1) (Int.toNat (I 16 (Int.toNat a1))) (fo_wr I a1 v2_4 v3_7) (I20 76) z19 := by
                have h9 := q19.2.2
                rw [show (fun k : Nat => so_rr I5 a1 (24 * a1 + (k : Int))) = fo_Ur I a1 from funext fun k => so_rr_eq v_9, FI5 16 _ rfl, fo_wr_fr x_9] at h9
                exact h9
              replace q19 := And.intro q19.1 q19.2.1
              have FI20 := gr_frt FI5 g19 rfl rfl
              have FJ21 := gr_fjt FJ6 k19 rfl rfl
              refine gv_callV hD rfl (As := [.inl a1, .inl v2_4, .inl v3_7]) (st := [.inl ((24 * v2_4) + v3_7), .inr (.inr (some 79))]) rfl (by decide) rfl rfl (gr_lV hws rfl) (Nat.le_of_ble_eq_true rfl) (gz_Ev_mono (d := 5) (by decide) E19) ?_
              show gv_X _ _ (78, [(4, .inl ((24 * v2_4) + v3_7)), (0, .inr (.inr (some 0))), (1, .inl a1), (2, .inl v2_4), (3, .inl v3_7)], [.inl z19, .inl ((24 * v2_4) + v3_7), .inr (.inr (some 79))], gr_sh ++ ext, gr_h I20 J21)
              refine gv_run 1 true hD (pcₚ := 79) (lvₚ := [(4, .inl ((24 * v2_4) + v3_7)), (0, .inr (.inr (some 0))), (1, .inl a1), (2, .inl v2_4), (3, .inl v3_7)]) (stₚ := []) (hₚ := gz_up (gr_h I20 J21) 79 (Int.toNat (((24 * v2_4) + v3_7))) (.inl z19)) (C := (True ∧ (0 ≤ (((24 * v2_4) + v3_7)) ∧ (((24 * v2_4) + v3_7)) < ((1536 : Nat) : Int)))) rfl ⟨trivial, ⟨by omega, by omega⟩⟩ ?_
              refine gr_st hI20 FI20 rfl rfl ⟨⟨by show (-1) ≤ _; omega, by show _ ≤ 24; omega⟩, trivial⟩ (fun I22 hI22 FI22 q23 p23 => ?_)
              refine gv_run 2 true hD (pcₚ := 82) (lvₚ := [(5, .inl 0), (4, .inl ((24 * v2_4) + v3_7)), (0, .inr (.inr (some 0))), (1, .inl a1), (2, .inl v2_4), (3, .inl v3_7)]) (stₚ := []) (hₚ := gr_h I22 J21) (C := ((True ∧ True) ∧ True)) rfl ⟨⟨trivial, trivial⟩, trivial⟩ ?_
              refine gv_pick [2, 3, 4, 5, 1, 0] rfl ?_
              exact L82 _ I22 J21 (((24 * v2_4) + v3_7)) 0 (Nat.lt_succ_self _) hI22 FI22 FJ21 (by omega) ⟨fo_L8_0 k_47.1 (by omega) (by omega) hb9 (fun j => (gr_b_79 hI5 j).2) o_9 (fun k => g19 78 k rfl) (fun k => g19 79 k rfl) (by omega) rfl p23 q23, (p23 0 127 (fun q => absurd q.1 (by decide))).trans ((g19 0 127 rfl).trans k_47.2.1), (p23 0 128 (fun q => absurd q.1 (by decide))).trans ((g19 0 128 rfl).trans k_47.2.2.1), k_47.2.2.2⟩
        have w_18 : I2 18 (Int.toNat a1) = I 18 (Int.toNat a1) := FI2 18 _ rfl
        have f24 := (gr_b_18 hI2 (Int.toNat a1))
        refine gv_run 5 true hD (pcₚ := 42) (lvₚ := [(0, .inr (.inr (some 0))), (1, .inl a1), (2, .inl v2_4)]) (stₚ := [.inl (I2 18 (Int.toNat a1)), .inl v2_4]) (hₚ := gr_h I2 J3) (C := (((((True ∧ True) ∧ True) ∧ True) ∧ True) ∧ (0 ≤ a1 ∧ a1 < ((8 : Nat) : Int)))) rfl ⟨⟨⟨⟨⟨trivial, trivial⟩, trivial⟩, trivial⟩, trivial⟩, ⟨by omega, by omega⟩⟩ ?_
        refine gv_icmp_ge (t := 132) hD rfl rfl ⟨⟨by omega, by omega⟩, ⟨by omega, by omega⟩⟩ (fun c25 => ?_) (fun c25 => ?_)
        · exact gv_vret hD rfl ⟨I2, J3, rfl, hI2, FI2, FJ3, rfl, k_35.2.1, k_35.2.2, fo_DR_e k_35.1 (by omega)⟩
        · refine gv_run 2 true hD (pcₚ := 47) (lvₚ := [(3, .inl 0), (0, .inr (.inr (some 0))), (1, .inl a1), (2, .inl v2_4)]) (stₚ := []) (hₚ := gr_h I2 J3) (C := ((True ∧ True) ∧ True)) rfl ⟨⟨trivial, trivial⟩, trivial⟩ ?_
          refine gv_pick [1, 2, 3, 0] rfl ?_
          exact L47 _ I2 J3 0 (Nat.lt_succ_self _) hI2 FI2 FJ3 (by omega) ⟨k_35.1, k_35.2.1, k_35.2.2, by omega⟩
    refine gv_run 3 true hD (pcₚ := 25) (lvₚ := [(0, .inr (.inr (some 0))), (1, .inl a1)]) (stₚ := []) (hₚ := gz_up (gr_h I J) 0 127 (.inl a1)) (C := (((True ∧ True) ∧ True) ∧ True)) rfl ⟨⟨⟨trivial, trivial⟩, trivial⟩, trivial⟩ ?_
    refine gr_st hI FI rfl rfl ⟨⟨by show (-1) ≤ _; omega, by show _ ≤ 7; omega⟩, trivial⟩ (fun I26 hI26 FI26 q27 p27 => ?_)
    have f28 := (gr_b_0_100 hI26)
    refine gv_run 3 true hD (pcₚ := 30) (lvₚ := [(0, .inr (.inr (some 0))), (1, .inl a1)]) (stₚ := [.inl (I26 0 100), .inr (.inr (some 0))]) (hₚ := gr_h I26 J) (C := (((True ∧ True) ∧ True) ∧ True)) rfl ⟨⟨⟨trivial, trivial⟩, trivial⟩, trivial⟩ ?_
    refine gv_run 1 true hD (pcₚ := 33) (lvₚ := [(0, .inr (.inr (some 0))), (1, .inl a1)]) (stₚ := []) (hₚ := gz_up (gr_h I26 J) 0 128 (.inl (I26 0 100))) (C := (True ∧ True)) rfl ⟨trivial, trivial⟩ ?_
    refine gr_st hI26 FI26 rfl rfl ⟨⟨by show (-1) ≤ _; omega, by show _ ≤ 1000000; omega⟩, trivial⟩ (fun I29 hI29 FI29 q30 p30 => ?_)
    refine gv_run 2 true hD (pcₚ := 35) (lvₚ := [(2, .inl 0), (0, .inr (.inr (some 0))), (1, .inl a1)]) (stₚ := []) (hₚ := gr_h I29 J) (C := ((True ∧ True) ∧ True)) rfl ⟨⟨trivial, trivial⟩, trivial⟩ ?_
    refine gv_pick [1, 2, 0] rfl ?_
    exact L35 _ I29 J 0 (Nat.lt_succ_self _) hI29 FI29 FJ (by omega) ⟨fo_DR_0, (p30 0 127 (by decide)).trans q27, q30.trans (p27 0 100 (by decide))⟩
  have f31 := (gr_b_0_127 hI)
  refine gv_run 3 true hD (pcₚ := 5) (lvₚ := [(0, .inr (.inr (some 0))), (1, .inl a1)]) (stₚ := [.inl a1, .inl (I 0 127)]) (hₚ := gr_h I J) (C := (((True ∧ True) ∧ True) ∧ True)) rfl ⟨⟨⟨trivial, trivial⟩, trivial⟩, trivial⟩ ?_
  refine gv_icmp_ne (t := 20) hD rfl rfl ⟨⟨by omega, by omega⟩, ⟨by omega, by omega⟩⟩ (fun c32 => ?_) (fun c32 => ?_)
  · exact L20 (by omega)
  · have f33 := (gr_b_0_128 hI)
    have f34 := (gr_b_0_100 hI)
    refine gv_run 4 true hD (pcₚ := 16) (lvₚ := [(0, .inr (.inr (some 0))), (1, .inl a1)]) (stₚ := [.inl (I 0 100), .inl (I 0 128)]) (hₚ := gr_h I J) (C := ((((True ∧ True) ∧ True) ∧ True) ∧ True)) rfl ⟨⟨⟨⟨trivial, trivial⟩, trivial⟩, trivial⟩, trivial⟩ ?_
    refine gv_icmp_ne (t := 20) hD rfl rfl ⟨⟨by omega, by omega⟩, ⟨by omega, by omega⟩⟩ (fun c35 => ?_) (fun c35 => ?_)
    · exact L20 (by omega)
    · exact gv_vret hD rfl ⟨I, J, rfl, hI, FI, FJ, rfl, by omega, by omega, y1 (by omega) (by omega)⟩
theorem r_forms_k {ws0 : List Cond} {tb : String → gz_T} (hws : ∀ w ∈ gr_ws, w ∈ ws0) (htb : tb RX13 = gr_T) (ext : gz_Sh) (I : gr_I) (J : gr_J) (hI : gr_Inv I) (a1 : Int) (ha1 : 0 ≤ a1 ∧ a1 ≤ 7)  : ∃ r hₚ, gz_Ev ws0 tb 6 (yX13_forms, cX13_forms, 6, none) [.inr (.inr (some 0)), .inl a1] (gr_sh ++ ext) (gr_h I J) r (gr_sh ++ ext) hₚ 0 0 ∧ (∃ (Iₚ : gr_I) (Jₚ : gr_J), hₚ = gr_h Iₚ Jₚ ∧ gr_Inv Iₚ ∧ gr_fr [126, 127, 128] [76, 77, 78, 79] I Iₚ ∧ gr_fj [126, 127, 128] [76, 77, 78, 79] J Jₚ ∧ r = none ∧ (gr_KR I Iₚ)) := by
  by_cases Y : gr_KQ I ∧ a1 < I 0 1
  · obtain ⟨r, hₚ, E, Iₚ, Jₚ, e, hIₚ, F, G, er, p1, p2, p3⟩ := r_forms_p hws htb ext I J hI a1 ha1 (Y.1.1 a1 ha1.1 Y.2) (fun e1 e2 => by
      have h9 := Y.1.2.1 (by omega) (by omega) e2
      rw [e1] at h9
      exact h9)
    exact ⟨r, hₚ, E, Iₚ, Jₚ, e, hIₚ, F, G, er, fun q => gr_KQ_mk q (gr_kt_t (by decide) F) p1 p2 (fun _ => p3)⟩
  · obtain ⟨r, hₚ, E, Iₚ, Jₚ, e, hIₚ, F, G, er, p1, p2⟩ := r_forms_v hws htb ext I J hI a1 ha1
    exact ⟨r, hₚ, E, Iₚ, Jₚ, e, hIₚ, F, G, er, fun q => gr_KQ_mk q (gr_kt_t (by decide) F) p1 p2 (fun h9 => absurd ⟨q, h9⟩ Y)⟩
theorem r_forms_q {ws0 : List Cond} {tb : String → gz_T} (hws : ∀ w ∈ gr_ws, w ∈ ws0) (htb : tb RX13 = gr_T) (ext : gz_Sh) (I : gr_I) (J : gr_J) (hI : gr_Inv I) (a1 : Int) (ha1 : 0 ≤ a1 ∧ a1 ≤ 7) (y0 : gr_KQ I) (y1 : a1 < I 0 1) : ∃ r hₚ, gz_Ev ws0 tb 6 (yX13_forms, cX13_forms, 6, none) [.inr (.inr (some 0)), .inl a1] (gr_sh ++ ext) (gr_h I J) r (gr_sh ++ ext) hₚ 0 0 ∧ (∃ (Iₚ : gr_I) (Jₚ : gr_J), hₚ = gr_h Iₚ Jₚ ∧ gr_Inv Iₚ ∧ gr_fr [126, 127, 128] [76, 77, 78, 79] I Iₚ ∧ gr_fj [126, 127, 128] [76, 77, 78, 79] J Jₚ ∧ r = none ∧ (gr_KR I Iₚ) ∧ (fo_FR Iₚ Iₚ a1)) := by
  obtain ⟨r, hₚ, E, Iₚ, Jₚ, e, hIₚ, F, G, er, p1, p2, p3⟩ := r_forms_p hws htb ext I J hI a1 ha1 (y0.1 a1 ha1.1 y1) (fun e1 e2 => by
    have h9 := y0.2.1 (by omega) (by omega) e2
    rw [e1] at h9
    exact h9)
  exact ⟨r, hₚ, E, Iₚ, Jₚ, e, hIₚ, F, G, er, fun q => gr_KQ_mk q (gr_kt_t (by decide) F) p1 p2 (fun _ => p3), fo_tr_FR (gr_kt_t (by decide) F) p3 (fun _ => rfl) (fun _ => rfl)⟩
