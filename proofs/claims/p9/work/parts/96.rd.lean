/-! where a TONGUE's tables lie; R where nothing comes -/
section RD
variable {sh : gz_Sh} {ro : Nat → Nat} {I Iₚ : gr_I} {J Jₚ : gr_J} {A Aₚ : gc_A} {Ir Irₚ : gr_I} {Jr Jrₚ : gr_J}
theorem gs_bT_of {t : Nat} (hI : gc_Inv ro I) (h_t : gc_isTongue sh ro A t) : gs_bT t I := by
  obtain ⟨S_t, R_t, B_t, A_t_0, h_t_1, A_t_1, h_t_3, A_t_2, S_t_5, R_t_5, B_t_5, A_t_3, S_t_6, R_t_6, B_t_6, A_t_4, h_t_7, A_t_5, S_t_9, R_t_9, B_t_9, A_t_7, S_t_10, R_t_10, B_t_10, A_t_8, h_t_11, A_t_9, S_t_13, R_t_13, B_t_13, A_t_10, S_t_14, R_t_14, B_t_14, A_t_12, S_t_15, R_t_15, B_t_15, A_t_14, S_t_16, R_t_16, B_t_16, A_t_15, h_t_17⟩ := id h_t
  exact ⟨gc_in hI h_t_1.2.1 rfl rfl, gc_in hI h_t_3.2.1 rfl rfl, gc_in hI h_t_7.2.1 rfl rfl, gc_in hI h_t_11.2.1 rfl rfl, gc_in hI R_t rfl rfl, fun f => gc_in hI R_t_13 rfl rfl⟩
theorem gs_hT9 {i t : Nat} (hs : gh_HS sh ro I J A) (hi : (i : Int) < I 8 1) (ht : A 10 i = some t) : gc_isTongue sh ro A t ∧ 144 ≤ t := by
  have i8 : 0 ≤ I 8 1 ∧ I 8 1 ≤ 8 := gc_in hs.2.1 (gc_bR hs.1 (by decide) rfl) rfl rfl
  have h := hs.2.2.2.1.1 i t (by omega) ht
  exact ⟨h.1, h.2.1⟩
theorem gs_hL9 {i t : Nat} (hs : gh_HS sh ro I J A) (hi : (i : Int) < I 8 1) (ht : A 10 i = some t) : ∀ k q : Nat, (k : Int) < I t 13 → A (t + 16) k = some q → 144 ≤ q ∧ gc_isLin sh ro A q := fun k q hk hA => by
  obtain ⟨u, w1, w2, _⟩ := hs.2.2.2.2.1 i hi
  have e : u = t := Option.some.inj (w1.symm.trans ht)
  rw [e] at w2
  obtain ⟨q9, b1, b2, b3, _, _⟩ := w2 k hk
  have e2 : q9 = q := Option.some.inj (b1.symm.trans hA)
  rw [← e2]
  exact ⟨b3, b2⟩
theorem gs_hJ9 {i i2 t t2 : Nat} (hs : gh_HS sh ro I J A) (hi : (i : Int) < I 8 1) (ht : A 10 i = some t) (hi2 : (i2 : Int) < I 8 1) (ht2 : A 10 i2 = some t2) (hne : ¬ i2 = i) : t2 + 25 ≤ t ∨ t + 25 ≤ t2 := by
  have i8 : 0 ≤ I 8 1 ∧ I 8 1 ≤ 8 := gc_in hs.2.1 (gc_bR hs.1 (by decide) rfl) rfl rfl
  rcases gc_dj_TT (gs_hT9 hs hi2 ht2).1 (gs_hT9 hs hi ht).1 with e | e | e
  · rw [e] at ht2
    exact absurd (hs.2.2.2.1.2 i2 i t (by omega) (by omega) ht2 ht) hne
  · exact Or.inl e
  · exact Or.inr e
/-- the tables of TONGUES stay where a statement of the store was read -/
theorem gs_ct_s (hs : gh_HS sh ro I J A) (f : ∀ q j : Nat, 144 ≤ q → Iₚ q j = I q j) (g : ∀ q j : Nat, 144 ≤ q → Jₚ q j = J q j) : ∀ i t : Nat, (i : Int) < I 8 1 → A 10 i = some t → gs_cT t I J A Iₚ Jₚ A := fun i t hi ht => gs_cT_of f g (gs_hT9 hs hi ht).2 (fun k q hk hA => (gs_hL9 hs hi ht k q hk hA).1)
/-- the tables of other TONGUES stay where a statement of the TONGUE t was read -/
theorem gs_ct_o {i t : Nat} (hs : gh_HS sh ro I J A) (hi : (i : Int) < I 8 1) (ht : A 10 i = some t) (f : ∀ q j : Nat, 144 ≤ q → (t ≤ q ∧ q < t + 17) ∨ Iₚ q j = I q j) (g : ∀ q j : Nat, 144 ≤ q → (t ≤ q ∧ q < t + 17) ∨ Jₚ q j = J q j) : ∀ i2 t2 : Nat, (i2 : Int) < I 8 1 → ¬ i2 = i → A 10 i2 = some t2 → gs_cT t2 I J A Iₚ Jₚ A := fun i2 t2 hi2 hne ht2 => by
  have G2 := (gs_hT9 hs hi2 ht2).2
  have dj := gs_hJ9 hs hi ht hi2 ht2 hne
  have fz : ∀ q j : Nat, t2 ≤ q → q < t2 + 17 → Iₚ q j = I q j := fun q j h1 h2 => (f q j (by omega)).resolve_left (by omega)
  have gz : ∀ q j : Nat, t2 ≤ q → q < t2 + 17 → Jₚ q j = J q j := fun q j h1 h2 => (g q j (by omega)).resolve_left (by omega)
  refine ⟨⟨fz _ _ (by omega) (by omega), fun k => gz _ _ (by omega) (by omega)⟩, ⟨fz _ _ (by omega) (by omega), fun k => gz _ _ (by omega) (by omega), fun k => fz _ _ (by omega) (by omega), fun k => fz _ _ (by omega) (by omega)⟩, ⟨fz _ _ (by omega) (by omega), fun k => gz _ _ (by omega) (by omega)⟩, fz _ _ (by omega) (by omega), ⟨fz _ _ (by omega) (by omega), fun k => gz _ _ (by omega) (by omega), fun k => fz _ _ (by omega) (by omega), fun k => fz _ _ (by omega) (by omega)⟩, fz _ _ (by omega) (by omega), fz _ _ (by omega) (by omega), fun k q hk hA => ⟨hA, ?_⟩⟩
  obtain ⟨b1, b2⟩ := gs_hL9 hs hi2 ht2 k q hk hA
  have dl := gc_dj_LT b2 (gs_hT9 hs hi ht).1
  exact (f q 1 b1).resolve_left (by omega)
/-- LINS of the TONGUE at hand stay where none comes -/
theorem gs_cl_o {i t : Nat} (hs : gh_HS sh ro I J A) (hi : (i : Int) < I 8 1) (ht : A 10 i = some t) (f : ∀ q j : Nat, 144 ≤ q → (t ≤ q ∧ q < t + 17) ∨ Iₚ q j = I q j) : ∀ k q : Nat, (k : Int) < I t 13 → A (t + 16) k = some q → A (t + 16) k = some q ∧ Iₚ q 1 = I q 1 := fun k q hk hA => by
  obtain ⟨b1, b2⟩ := gs_hL9 hs hi ht k q hk hA
  have dl := gc_dj_LT b2 (gs_hT9 hs hi ht).1
  exact ⟨hA, (f q 1 b1).resolve_left (by omega)⟩
theorem gs_rA_rf : gs_rA Ir Jr Ir Jr := ⟨fun _ => ⟨rfl, rfl, rfl, rfl, rfl, rfl, rfl⟩, fun _ => ⟨rfl, rfl, rfl, rfl, rfl⟩, fun _ => ⟨rfl, rfl, rfl, rfl⟩⟩
/-- nothing came -/
theorem gs_R_same (h : gs_R I J A Ir Jr) (cg : gs_cG I J Iₚ Jₚ) (ct : ∀ i t : Nat, (i : Int) < I 8 1 → Aₚ 10 i = some t → A 10 i = some t ∧ gs_cT t I J A Iₚ Jₚ Aₚ) : gs_R Iₚ Jₚ Aₚ Ir Jr := by
  obtain ⟨⟨g1, g2, g3, g4⟩, gj, ⟨g5, g6⟩, gr⟩ := cg
  obtain ⟨n2, n4, n6, n8, gf, gk, hc, hT, h0⟩ := h
  exact ⟨gs_GN_fr n2 g1 (fun k => (gj k).1) rfl (fun _ => rfl), gs_GN_fr n4 g2 (fun k => (gj k).2.1) rfl (fun _ => rfl), gs_GN_fr n6 g3 (fun k => (gj k).2.2.1) rfl (fun _ => rfl), gs_GN_fr n8 g4 (fun k => (gj k).2.2.2.1) rfl (fun _ => rfl), gs_GF_fr gf g5 (fun k => (gj k).2.2.2.2) (fun k => (gr k).2.2.2.2.1) rfl (fun _ => ⟨rfl, rfl, rfl⟩), gs_GK_fr gk g2 (fun k => (gr k).1) (fun k => (gr k).2.1) (fun k => (gr k).2.2.1) (fun k => (gr k).2.2.2.1) (fun _ => ⟨rfl, rfl, rfl, rfl⟩) (fun k => (gr k).2.2.2.2.2) (fun _ => rfl), g6.trans hc, fun i t hi hA => gs_RT_fr (hT i t (by omega) (ct i t (by omega) hA).1) (ct i t (by omega) hA).2 gs_rA_rf, h0⟩
end RD
/-! a statement's keyword -/
theorem gs_UK_r {β : Int → Int} {N : Int} {I : gr_I} {J : gr_J} {k : Nat} {q : Int} {Iₚ : gr_I} {Jₚ : gr_J} (h : gs_UK β N I J k q Iₚ Jₚ) : 80 ≤ k ∧ k ≤ 91 := by
  unfold gs_UK at h
  split at h <;> first | exact ⟨by decide, by decide⟩ | exact h.elim
theorem gs_W_inj : ∀ a b : Fin 12, gs_W (80 + a.val) = gs_W (80 + b.val) → a = b := by decide +kernel
theorem gs_STU_k {β : Int → Int} {N p : Int} {I : gr_I} {J : gr_J} {Iₚ : gr_I} {Jₚ : gr_J} (h : gs_STU β N p I J Iₚ Jₚ) (k : Nat) (hk : 80 ≤ k ∧ k ≤ 91) (e : gs_rn β N p = gs_W k) : gs_UK β N I J k (gs_X β N p) Iₚ Jₚ := by
  obtain ⟨k2, e2, u⟩ := h
  have r := gs_UK_r u
  have i := gs_W_inj ⟨k - 80, by omega⟩ ⟨k2 - 80, by omega⟩ (by
    show gs_W (80 + (k - 80)) = gs_W (80 + (k2 - 80))
    rw [show 80 + (k - 80) = k from by omega, show 80 + (k2 - 80) = k2 from by omega, ← e, e2])
  have j : k - 80 = k2 - 80 := congrArg Fin.val i
  rw [show k = k2 from by omega]
  exact u
/-! a good statement has a NAME behind its keyword -/
section TN
variable {β : Int → Int} {N : Int} {I : gr_I} {J : gr_J} {first p : Int}
theorem gs_t_new {row f : Nat} {cap : Int} (h : 0 ≤ gs_new β N I J row f cap first p) (hA : 0 ≤ gs_A β N p) : gs_T β N p = 1 := by
  apply Classical.byContradiction
  intro c
  rw [show gs_new β N I J row f cap first p = -1 - gs_A β N p from if_neg c] at h
  omega
theorem gs_t_fun (h : 0 ≤ gs_fun β N I J first p) (hA : 0 ≤ gs_A β N p) : gs_T β N p = 1 := by
  apply Classical.byContradiction
  intro c
  rw [show gs_fun β N I J first p = -1 - gs_A β N p from if_neg c] at h
  omega
theorem gs_t_fact (h : 0 ≤ gs_fact β N I J first p) (hA : 0 ≤ gs_A β N p) : gs_T β N p = 1 := by
  apply Classical.byContradiction
  intro c
  rw [show gs_fact β N I J first p = -1 - gs_A β N p from if_neg c] at h
  omega
theorem gs_t_tong (h : 0 ≤ gs_tong β N I J first p) (hA : 0 ≤ gs_A β N p) : gs_T β N p = 1 := by
  apply Classical.byContradiction
  intro c
  rw [show gs_tong β N I J first p = -1 - gs_A β N p from if_neg c] at h
  omega
theorem gs_t_fea (h : 0 ≤ gs_fea β N I J first p) (hA : 0 ≤ gs_A β N p) : gs_T β N p = 1 := by
  apply Classical.byContradiction
  intro c
  rw [show gs_fea β N I J first p = -1 - gs_A β N p from if_neg c] at h
  omega
theorem gs_t_let (h : 0 ≤ gs_let β N I J first p) (hA : 0 ≤ gs_A β N p) : gs_T β N p = 1 := by
  apply Classical.byContradiction
  intro c
  rw [show gs_let β N I J first p = -1 - gs_A β N p from if_neg c] at h
  omega
theorem gs_t_pat (h : 0 ≤ gs_pat β N I J first p) (hA : 0 ≤ gs_A β N p) : gs_T β N p = 1 := by
  apply Classical.byContradiction
  intro c
  rw [gs_pat_x (c := -1 - gs_A β N p) (V := []) (if_neg c) (by omega)] at h
  omega
end TN
theorem gs_nx_X {β : Int → Int} {N : Int} : ∀ (k : Nat) (q : Int), gs_nx β N k (gs_X β N q) = gs_nx β N (k + 1) q
  | 0, _ => rfl
  | k + 1, q => by
    show gs_X β N (gs_nx β N k (gs_X β N q)) = gs_X β N (gs_nx β N (k + 1) q)
    rw [gs_nx_X k q]
set_option maxHeartbeats 8000000 in
theorem gs_cn_t {β : Int → Int} {N : Int} : ∀ (m : Nat) (q : Int) (k : Nat), (k : Int) < gs_cn β N m q → gs_T β N (gs_nx β N k q) = 1
  | 0, q, k, h => by
    have : gs_cn β N 0 q = 0 := rfl
    exact gz_m 0 (by omega)
  | m + 1, q, k, h => by
    by_cases c : gs_T β N q = 1
    · match k with
      | 0 => exact c
      | k + 1 =>
        rw [← gs_nx_X]
        refine gs_cn_t m (gs_X β N q) k ?_
        have e : gs_cn β N (m + 1) q = 1 + gs_cn β N m (gs_X β N q) := if_pos c
        exact gz_m 1 (by omega)
    · rw [gs_cn_e c] at h
      exact gz_m 2 (by omega)
/-- what a statement tells: z: was it well; p: its keyword -/
def gs_SP (β : Int → Int) (η p : Int) (Ir : gr_I) (Jr : gr_J) (z : Int) (Iₚ : gr_I) (Jₚ : gr_J) (Aₚ : gc_A) : Prop := (z = 0 → gs_stc β η Ir Jr p < 0 ∧ Iₚ 39 4 = -1 - gs_stc β η Ir Jr p ∧ gs_R Iₚ Jₚ Aₚ Ir Jr) ∧ (z = 1 → 0 ≤ gs_stc β η Ir Jr p ∧ gc_AT β η (gs_stc β η Ir Jr p) 23 Iₚ Jₚ ∧ Iₚ 1 18 = 0 ∧ ∀ (Irₚ : gr_I) (Jrₚ : gr_J), gs_STU β η p Ir Jr Irₚ Jrₚ → gs_R Iₚ Jₚ Aₚ Irₚ Jrₚ)
