/-! ANALYSES: which FORMS are a word (p9, p10) -/
def fo_br (I : gr_I) (t : Int) (x : Int) : Prop := ∃ w c : Int, x = 24 * w + c ∧ 0 ≤ w ∧ w < I 18 (Int.toNat t) ∧ 0 ≤ c ∧ c < fo_cr I t w
/-- form x is the n letters of row r from a on -/
def fo_if (I : gr_I) (r : Nat) (x a n : Int) : Prop := I 79 (Int.toNat x) = n ∧ ∀ j : Nat, (j : Int) < n → I 78 (Int.toNat (24 * x) + j) = I r (Int.toNat a + j)
def fo_Mr (I I1 : gr_I) (t : Int) : Nat → Prop := fo_M (fo_br I t) (I1 78) (I1 79) (I 56) (I 0 68)
def fo_AN (I I1 : gr_I) (t : Int) (x : Nat) : Prop := fo_FR I I1 t ∧ fo_cn (fo_Mr I I1 t) x (I1 0 132) ∧ fo_ls (fo_Mr I I1 t) (I1 80) x
section AN9
variable {I I1 I2 Iₚ : gr_I} {t w c y n : Int} {x m : Nat} {P : Nat → Prop} {f f' : Nat → Int} {z : Int}
theorem fo_br_no (b : ∀ w' : Int, fo_cr I t w' ≤ 24) (hw : 0 ≤ w) (hc : 0 ≤ c) (e : fo_cr I t w ≤ c) (h1 : 24 * w + c ≤ y) (h2 : y < 24 * (w + 1)) : ¬ fo_br I t y := fun h => by
  obtain ⟨w', c', e1, a0, a1, a2, a3⟩ := h
  have b' := b w'
  have e9 : w' = w := by omega
  rw [e9] at a3 e1
  omega
theorem fo_br_end (hw : 0 ≤ w) (e : I 18 (Int.toNat t) ≤ w) (h1 : 24 * w ≤ y) (b : ∀ w' : Int, fo_cr I t w' ≤ 24) : ¬ fo_br I t y := fun h => by
  obtain ⟨w', c', e1, a0, a1, a2, a3⟩ := h
  have b' := b w'
  omega
theorem fo_AN_0 (h : fo_FR I I1 t) (z : I1 0 132 = 0) : fo_AN I I1 t 0 := ⟨h, z, fun x y l => absurd l (Nat.not_lt_zero x)⟩
theorem fo_AN_n (h : fo_AN I I1 t x) (hx : x = Int.toNat (24 * w + c)) (b : ∀ w' : Int, fo_cr I t w' ≤ 24) (hw : 0 ≤ w) (hc : 0 ≤ c ∧ c ≤ 24) (e : fo_cr I t w ≤ c) (hm : m = Int.toNat (24 * (w + 1))) : fo_AN I I1 t m := by
  have nn : ∀ j : Nat, x ≤ j → j < m → ¬ fo_Mr I I1 t j := fun j j1 j2 mj => fo_br_no b hw hc.1 e (by omega) (by omega) mj.1
  exact ⟨h.1, fo_cn_sk h.2.1 (by omega) nn, fo_ls_sk h.2.2 nn⟩
theorem fo_AN_e (h : fo_AN I I1 t x) (hx : x = Int.toNat (24 * w)) (b : ∀ w' : Int, fo_cr I t w' ≤ 24) (hw : 0 ≤ w ∧ w ≤ 64) (e : I 18 (Int.toNat t) ≤ w) : fo_AN I I1 t 1536 := by
  have nn : ∀ j : Nat, x ≤ j → j < 1536 → ¬ fo_Mr I I1 t j := fun j j1 j2 mj => fo_br_end hw.1 e (by omega) b mj.1
  exact ⟨h.1, fo_cn_sk h.2.1 (by omega) nn, fo_ls_sk h.2.2 nn⟩
theorem fo_AN_no (h : fo_AN I I1 t x) (no : ¬ fo_Mr I I1 t x) (hm : m = x + 1) : fo_AN I I1 t m := by
  rw [hm]
  exact ⟨h.1, Or.inr ⟨no, h.2.1⟩, fo_ls_sk h.2.2 (fun j j1 j2 mj => no (by rw [show x = j from by omega]; exact mj))⟩
theorem fo_Mr_eq (e78 : ∀ k, I2 78 k = I1 78 k) (e79 : ∀ k, I2 79 k = I1 79 k) : fo_Mr I I2 t = fo_Mr I I1 t := by
  unfold fo_Mr
  rw [show I2 78 = I1 78 from funext e78, show I2 79 = I1 79 from funext e79]
theorem fo_FR_eq (h : fo_FR I I1 t) (e78 : ∀ k, I2 78 k = I1 78 k) (e79 : ∀ k, I2 79 k = I1 79 k) : fo_FR I I2 t := fun w c w0 w1 c0 c1 => by
  have h9 := h w c w0 w1 c0 c1
  unfold fo_Fr at h9 ⊢
  rw [e79, show I2 78 = I1 78 from funext e78]
  exact h9
theorem fo_AN_in (h : fo_AN I I1 t x) (mx : fo_Mr I I1 t x) (hm : m = x + 1) (e78 : ∀ k, I2 78 k = I1 78 k) (e79 : ∀ k, I2 79 k = I1 79 k) (e : I2 0 132 = I1 0 132 + 1) (q : I2 80 (Int.toNat (I1 0 132)) = (x : Int)) (p : ∀ j : Nat, ¬ j = Int.toNat (I1 0 132) → I2 80 j = I1 80 j) : fo_AN I I2 t m := by
  rw [hm]
  refine ⟨fo_FR_eq h.1 e78 e79, ?_, ?_⟩
  · rw [fo_Mr_eq e78 e79, e]
    exact Or.inl ⟨mx, by rw [show I1 0 132 + 1 - 1 = I1 0 132 from by omega]; exact h.2.1⟩
  · rw [fo_Mr_eq e78 e79]
    exact fo_ls_in h.2.2 h.2.1 q p
theorem fo_Mr_if (hx : x = Int.toNat y) (hy : 0 ≤ y) (hN : n = I 0 68) (n1 : 1 ≤ n) (tx : ∀ k : Nat, (k : Int) < n → I1 57 k = I 56 k) (B : fo_br I t y) : fo_Mr I I1 t x ↔ fo_if I1 57 y 0 n := by
  constructor
  · intro h
    obtain ⟨_, _, h3, h4⟩ := h
    refine ⟨by rw [← hx, h3, hN], fun j hj => ?_⟩
    rw [show Int.toNat (24 * y) + j = 24 * x + j from by omega, h4 j (by omega), show Int.toNat 0 + j = j from by omega, tx j hj]
  · intro h
    have h1 := h.1
    rw [← hx] at h1
    refine ⟨by rw [show (x : Int) = y from by omega]; exact B, by omega, by omega, fun j hj => ?_⟩
    have h2 := h.2 j (by omega)
    rw [show Int.toNat (24 * y) + j = 24 * x + j from by omega, show Int.toNat 0 + j = j from by omega, tx j (by omega)] at h2
    exact h2
theorem fo_ls_cp (h : fo_ls P f m) (k : fo_cn P m z) (e : ∀ j : Nat, (j : Int) < z → f' j = f j) : fo_ls P f' m := fun x y l px ky => by
  have a := fo_cn_lt ky px l k
  have b := fo_cn_b ky
  rw [e _ (by omega)]
  exact h x y l px ky
/-- two lists of the same -/
theorem fo_ls_u {Q : Nat → Prop} {z' : Int} (e : ∀ x : Nat, P x ↔ Q x) (k : fo_cn P m z) (h : fo_ls P f m) (k' : fo_cn Q m z') (hₚ : fo_ls Q f' m) : z = z' ∧ ∀ j : Nat, (j : Int) < z → f j = f' j := by
  have hz : z = z' := fo_cn_u (fo_cn_cg (fun j _ => e j) k) k'
  refine ⟨hz, fun j hj => ?_⟩
  obtain ⟨x, a, b, c⟩ := fo_cn_at k (i := (j : Int)) (by omega) hj
  have h1 := h x (j : Int) a b c
  have h2 := hₚ x (j : Int) a ((e x).mp b) (fo_cn_cg (fun j _ => e j) c)
  rw [show Int.toNat (j : Int) = j from rfl] at h1 h2
  rw [h1, h2]
/-- while analyse() goes on -/
def fo_a3 (I I1 : gr_I) (k : Int) : Prop := so_wd (I 0 68) (I 56) ∧ (∀ j : Nat, (j : Int) < k → I1 57 j = I 56 j) ∧ ∀ j : Nat, (j : Int) < I 0 68 → I1 76 j = I 56 j
def fo_aA (I I1 : gr_I) (t : Int) (x : Nat) : Prop := so_wd (I 0 68) (I 56) ∧ (∀ j : Nat, (j : Int) < I 0 68 → I1 57 j = I 56 j) ∧ fo_AN I I1 t x
def fo_aP (I I1 : gr_I) (t z : Int) : Prop := (0 ≤ t ∧ t < I 0 1) → ((so_wd (I 0 68) (I 56) ∧ z = I1 0 132 ∧ I1 0 133 = t ∧ fo_AN I I1 t 1536) ∨ (¬ so_wd (I 0 68) (I 56) ∧ z = -3 ∧ I1 0 132 = 0))
def fo_nA (I I1 : gr_I) (t : Int) : Prop := ¬ (0 ≤ t ∧ t < I 0 1) → I1 0 132 = I 0 132 ∧ I1 0 133 = I 0 133 ∧ ∀ k, I1 80 k = I 80 k
def fo_OW (I I1 : gr_I) (z : Int) : Prop := (z = 1 ∧ so_wd (I 0 68) (I 56) ∧ I1 0 126 = I 0 68 ∧ ∀ k : Nat, (k : Int) < I 0 68 → I1 76 k = I 56 k) ∨ (z = 0 ∧ ¬ so_wd (I 0 68) (I 56))
theorem fo_ow (h : fo_OW I I1 z) : ¬ z = 0 → (I1 0 126 = I 0 68 ∧ 1 ≤ I 0 68 ∧ I 0 68 ≤ 24) := fun c => by
  rcases h with ⟨_, h2, h3, _⟩ | ⟨h1, _⟩
  · exact ⟨h3, h2.1.1, h2.1.2⟩
  · exact absurd h1 c
theorem fo_ow_y (h : fo_OW I1 I2 z) (hz : ¬ z = 0) (e68 : I1 0 68 = I 0 68) (e56 : ∀ k, I1 56 k = I 56 k) : so_wd (I 0 68) (I 56) ∧ ∀ j : Nat, (j : Int) < I 0 68 → I2 76 j = I 56 j := by
  rcases h with ⟨_, h2, _, h4⟩ | ⟨h1, _⟩
  · rw [show I1 56 = I 56 from funext e56, e68] at h2 h4
    exact ⟨h2, h4⟩
  · exact absurd h1 hz
theorem fo_ow_n (h : fo_OW I1 I2 z) (hz : z = 0) (e68 : I1 0 68 = I 0 68) (e56 : ∀ k, I1 56 k = I 56 k) : ¬ so_wd (I 0 68) (I 56) := by
  rcases h with ⟨h1, _⟩ | ⟨_, h2⟩
  · omega
  · rw [show I1 56 = I 56 from funext e56, e68] at h2
    exact h2
theorem fo_a3_0 (h : fo_OW I1 I2 z) (hz : ¬ z = 0) (e68 : I1 0 68 = I 0 68) (e56 : ∀ k, I1 56 k = I 56 k) : fo_a3 I I2 0 := by
  obtain ⟨a, b⟩ := fo_ow_y h hz e68 e56
  exact ⟨a, fun j hj => by omega, b⟩
theorem fo_a3_s {k : Int} (h : fo_a3 I I1 k) (k0 : 0 ≤ k) (hk : k < I 0 68) (hm : m = Int.toNat k) (p : ∀ b j, ¬ (b = 57 ∧ j = m) → I2 b j = I1 b j) (q : I2 57 m = I1 76 (Int.toNat k)) : fo_a3 I I2 (k + 1) := by
  obtain ⟨a, b, c⟩ := h
  refine ⟨a, fun j hj => ?_, fun j hj => (p 76 j (fun e => absurd e.1 (by decide))).trans (c j hj)⟩
  by_cases e : j = m
  · rw [e, q, c _ (by omega), hm]
  · rw [p 57 j (fun e9 => e e9.2)]
    exact b j (by omega)
theorem fo_aA_0 {k : Int} (h : fo_a3 I I1 k) (hk : I 0 68 ≤ k) (e57 : ∀ j, I2 57 j = I1 57 j) (F : fo_FR I I2 t) (z : I2 0 132 = 0) (hm : m = 0) : fo_aA I I2 t m := by
  rw [hm]
  exact ⟨h.1, fun j hj => (e57 j).trans (h.2.1 j (by omega)), fo_AN_0 F z⟩
theorem fo_aA_m (h : fo_aA I I1 t x) (e : m = x) : fo_aA I I1 t m := by
  rw [e]
  exact h
theorem fo_aA_n (h : fo_aA I I1 t x) (hx : x = Int.toNat (24 * w + c)) (b : ∀ w' : Int, fo_cr I t w' ≤ 24) (hw : 0 ≤ w) (hc : 0 ≤ c ∧ c ≤ 24) (e : fo_cr I t w ≤ c) (hm : m = Int.toNat (24 * (w + 1))) : fo_aA I I1 t m := ⟨h.1, h.2.1, fo_AN_n h.2.2 hx b hw hc e hm⟩
theorem fo_aA_no (h : fo_aA I I1 t x) (F : (z = 1 ∧ fo_if I1 57 y 0 n) ∨ (z = 0 ∧ ¬ fo_if I1 57 y 0 n)) (hz : z = 0) (hx : x = Int.toNat y) (hy : 0 ≤ y) (hN : n = I 0 68) (B : fo_br I t y) (hm : m = x + 1) : fo_aA I I1 t m := by
  refine ⟨h.1, h.2.1, fo_AN_no h.2.2 (fun g => ?_) hm⟩
  rcases F with ⟨f, _⟩ | ⟨_, f⟩
  · omega
  · exact f ((fo_Mr_if hx hy hN (by have := h.1.1.1; omega) (fun k hk => h.2.1 k (by omega)) B).mp g)
theorem fo_aA_in (h : fo_aA I I1 t x) (F : (z = 1 ∧ fo_if I1 57 y 0 n) ∨ (z = 0 ∧ ¬ fo_if I1 57 y 0 n)) (hz : ¬ z = 0) (hx : x = Int.toNat y) (hy : 0 ≤ y) (hN : n = I 0 68) (B : fo_br I t y) (hm : m = x + 1) (e57 : ∀ j, I2 57 j = I1 57 j) (e78 : ∀ k, I2 78 k = I1 78 k) (e79 : ∀ k, I2 79 k = I1 79 k) (e : I2 0 132 = I1 0 132 + 1) (q : I2 80 (Int.toNat (I1 0 132)) = y) (p : ∀ j : Nat, ¬ j = Int.toNat (I1 0 132) → I2 80 j = I1 80 j) : fo_aA I I2 t m := by
  refine ⟨h.1, fun j hj => (e57 j).trans (h.2.1 j hj), fo_AN_in h.2.2 ?_ hm e78 e79 e (by rw [q]; omega) p⟩
  rcases F with ⟨_, f⟩ | ⟨f, _⟩
  · exact (fo_Mr_if hx hy hN (by have := h.1.1.1; omega) (fun k hk => h.2.1 k (by omega)) B).mpr f
  · exact absurd f hz
end AN9
section AL9
variable {i t : Nat} {I I1 Ir Ir1 : gr_I} {J Jr : gr_J} {A : gc_A} {τ : Int}
theorem fo_al_b (b : ∀ w : Int, fo_cs I t w ≤ 24) (w64 : I t 11 ≤ 64) : ∀ x, fo_al I t x → 0 ≤ x ∧ x < 1536 := fun x h => by
  obtain ⟨w, c, e, a0, a1, a2, a3⟩ := h
  have := b w
  omega
theorem so_b_j {z : Int} {f g : Nat → Int} {j : Nat} (e : so_b z f = so_b z g) (hj : (j : Int) < z) : f j = g j := by
  have h := congrFun e (j : Int)
  unfold so_b at h
  rw [so_cut_i (by omega) hj, so_cut_i (by omega) hj] at h
  exact h
/-- FORMS on both sides -/
def gs_FS (I I1 : gr_I) (t : Nat) (Ir1 : gr_I) : Prop := ∀ w c : Int, 0 ≤ w → w < I t 11 → 0 ≤ c → c < fo_cs I t w → I1 (t + 17 + 2) (Int.toNat (24 * w + c)) = Ir1 79 (Int.toNat (24 * w + c)) ∧ ∀ j : Nat, (j : Int) < I1 (t + 17 + 2) (Int.toNat (24 * w + c)) → I1 (t + 17 + 1) (Int.toNat (24 * (24 * w + c)) + j) = Ir1 78 (Int.toNat (24 * (24 * w + c)) + j)
theorem gs_FS_mk (hR : gs_R I J A Ir Jr) (yS : gs_RV I A Ir) (b8 : I 8 1 ≤ 8) (hi : (i : Int) < I 8 1) (ht : A 10 i = some t) (F : fo_FC I I1 t (t + 17)) (FR : fo_FR Ir Ir1 (i : Int)) : gs_FS I I1 t Ir1 := fun w c w0 w1 c0 c1 => by
  obtain ⟨⟨q6, q11⟩, g, rw9⟩ := gs_RL hR yS b8 hi ht
  obtain ⟨e1, e2⟩ := rw9 w w0 w1
  obtain ⟨⟨ew, en⟩, _⟩ := e2 c c0 c1
  have f1 := F.1 w c w0 w1 c0 c1
  have f2 := FR w c w0 (by omega) c0 (by rw [← e1]; exact c1)
  unfold fo_F1 at f1
  unfold fo_Fr at f2
  rw [← q6, ← ew] at f2
  obtain ⟨hz, hb⟩ := fo_out_u (U' := fo_Ur Ir (i : Int)) (fun k hk => (g (k : Int) (by omega) (by omega)).1) en f1 f2
  refine ⟨hz, fun j hj => ?_⟩
  have hb9 := hb (by omega)
  rw [← hz] at hb9
  exact so_b_j (f := fun k => I1 (t + 17 + 1) (Int.toNat (24 * (24 * w + c)) + k)) (g := fun k => Ir1 78 (Int.toNat (24 * (24 * w + c)) + k)) hb9 hj
theorem gs_al_br (hR : gs_R I J A Ir Jr) (yS : gs_RV I A Ir) (b8 : I 8 1 ≤ 8) (hi : (i : Int) < I 8 1) (ht : A 10 i = some t) (x : Int) : fo_al I t x ↔ fo_br Ir (i : Int) x := by
  obtain ⟨⟨_, q11⟩, _, rw9⟩ := gs_RL hR yS b8 hi ht
  constructor
  · intro h
    obtain ⟨w, c, e, w0, w1, c0, c1⟩ := h
    exact ⟨w, c, e, w0, by omega, c0, by rw [← (rw9 w w0 w1).1]; exact c1⟩
  · intro h
    obtain ⟨w, c, e, w0, w1, c0, c1⟩ := h
    exact ⟨w, c, e, w0, by omega, c0, by rw [(rw9 w w0 (by omega)).1]; exact c1⟩
theorem gs_M_iff (hR : gs_R I J A Ir Jr) (yS : gs_RV I A Ir) (b8 : I 8 1 ≤ 8) (hi : (i : Int) < I 8 1) (ht : A 10 i = some t) (S : gs_FS I I1 t Ir1) {g gₚ : Nat → Int} {n n' : Int} (hn : n = n') (eg : ∀ k : Nat, (k : Int) < n → g k = gₚ k) (x : Nat) : fo_M (fo_al I t) (I1 (t + 17 + 1)) (I1 (t + 17 + 2)) g n x ↔ fo_M (fo_br Ir (i : Int)) (Ir1 78) (Ir1 79) gₚ n' x := by
  subst hn
  have ab := gs_al_br hR yS b8 hi ht (x : Int)
  have key : fo_al I t (x : Int) → I1 (t + 17 + 2) x = Ir1 79 x ∧ ∀ j : Nat, (j : Int) < I1 (t + 17 + 2) x → I1 (t + 17 + 1) (24 * x + j) = Ir1 78 (24 * x + j) := fun h => by
    obtain ⟨w, c, e, w0, w1, c0, c1⟩ := h
    have s := S w c w0 w1 c0 c1
    rw [← e, show Int.toNat (x : Int) = x from rfl, show Int.toNat (24 * (x : Int)) = 24 * x from by omega] at s
    exact s
  constructor
  · intro h
    obtain ⟨h1, h2, h3, h4⟩ := h
    obtain ⟨k1, k2⟩ := key h1
    exact ⟨ab.mp h1, by omega, by omega, fun j hj => by rw [← k2 j (by omega), h4 j hj]; exact eg j (by omega)⟩
  · intro h
    obtain ⟨h1, h2, h3, h4⟩ := h
    have h5 := ab.mpr h1
    obtain ⟨k1, k2⟩ := key h5
    exact ⟨h5, by omega, by omega, fun j hj => by rw [k2 j (by omega), h4 j hj]; exact (eg j (by omega)).symm⟩
end AL9
