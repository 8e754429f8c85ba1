def gh_n1 (o : Option Nat) : Nat := match o with
  | none => 1
  | some _ => 0
def gh_nl (A : gc_A) : Nat := gh_n1 (A 10 0) + gh_n1 (A 10 1) + gh_n1 (A 10 2) + gh_n1 (A 10 3) + gh_n1 (A 10 4) + gh_n1 (A 10 5) + gh_n1 (A 10 6) + gh_n1 (A 10 7)
theorem gh_nl_eq {A Aₚ : gc_A} (h : ∀ i, i < 8 → Aₚ 10 i = A 10 i) : gh_nl Aₚ = gh_nl A := by
  unfold gh_nl
  rw [h 0 (by decide), h 1 (by decide), h 2 (by decide), h 3 (by decide), h 4 (by decide), h 5 (by decide), h 6 (by decide), h 7 (by decide)]
theorem gh_nl_set {A Aₚ : gc_A} {n t : Nat} (hn : n < 8) (h : ∀ i, ¬ i = n → Aₚ 10 i = A 10 i) (h0 : A 10 n = none) (h1 : Aₚ 10 n = some t) : gh_nl Aₚ + 1 = gh_nl A := by
  have e0 : gh_n1 (A 10 n) = 1 := by rw [h0]; rfl
  have e1 : gh_n1 (Aₚ 10 n) = 0 := by rw [h1]; rfl
  unfold gh_nl
  match n, hn with
  | 0, _ =>
    rw [h 1 (by decide), h 2 (by decide), h 3 (by decide), h 4 (by decide), h 5 (by decide), h 6 (by decide), h 7 (by decide)]
    omega
  | 1, _ =>
    rw [h 0 (by decide), h 2 (by decide), h 3 (by decide), h 4 (by decide), h 5 (by decide), h 6 (by decide), h 7 (by decide)]
    omega
  | 2, _ =>
    rw [h 0 (by decide), h 1 (by decide), h 3 (by decide), h 4 (by decide), h 5 (by decide), h 6 (by decide), h 7 (by decide)]
    omega
  | 3, _ =>
    rw [h 0 (by decide), h 1 (by decide), h 2 (by decide), h 4 (by decide), h 5 (by decide), h 6 (by decide), h 7 (by decide)]
    omega
  | 4, _ =>
    rw [h 0 (by decide), h 1 (by decide), h 2 (by decide), h 3 (by decide), h 5 (by decide), h 6 (by decide), h 7 (by decide)]
    omega
  | 5, _ =>
    rw [h 0 (by decide), h 1 (by decide), h 2 (by decide), h 3 (by decide), h 4 (by decide), h 6 (by decide), h 7 (by decide)]
    omega
  | 6, _ =>
    rw [h 0 (by decide), h 1 (by decide), h 2 (by decide), h 3 (by decide), h 4 (by decide), h 5 (by decide), h 7 (by decide)]
    omega
  | 7, _ =>
    rw [h 0 (by decide), h 1 (by decide), h 2 (by decide), h 3 (by decide), h 4 (by decide), h 5 (by decide), h 6 (by decide)]
    omega
  | _ + 8, h9 => exact absurd h9 (by omega)
def gh_RS (B : Int) (sh : gz_Sh) (ro : Nat → Nat) (I : gr_I) (A : gc_A) (z : Int) (a s : Nat) (shₚ : gz_Sh) (ro' : Nat → Nat) (Iₚ : gr_I) (Jₚ : gr_J) (Aₚ : gc_A) : Prop := (0 ≤ z ∧ z ≤ 1) ∧ gh_HS shₚ ro' Iₚ Jₚ Aₚ ∧ gh_AO sh ro I A shₚ ro' Iₚ Aₚ ∧ gc_LT Iₚ ∧ gc_TK Iₚ ∧ (Iₚ 23 1 = I 23 1 ∧ I 23 5 ≤ Iₚ 23 5 ∧ Iₚ 1 17 + Iₚ 23 1 ≤ B + Iₚ 23 5 ∧ ∀ k, Iₚ 21 k = I 21 k) ∧ (a + 25 * gh_nl Aₚ ≤ 25 * gh_nl A + 9 ∧ s + 45714 * gh_nl Aₚ ≤ 45714 * gh_nl A + 82 ∧ shₚ.length + 25 * gh_nl Aₚ ≤ sh.length + 25 * gh_nl A + 9)
theorem gh_RS_pre {sh shₚ : gz_Sh} {ro ro' : Nat → Nat} {I I8 Iₚ : gr_I} {J8 Jₚ : gr_J} {A Aₚ : gc_A} {z B : Int} {a s : Nat} (h81 : I 8 1 ≤ 8) (hs8 : gh_HS sh ro I8 J8 A) (ao : gh_AO sh ro I A sh ro I8 A) (e1 : I8 23 1 = I 23 1) (e5 : I 23 5 ≤ I8 23 5) (e21 : ∀ k, I8 21 k = I 21 k) (h : gh_RS B sh ro I8 A z a s shₚ ro' Iₚ Jₚ Aₚ) : gh_RS B sh ro I A z a s shₚ ro' Iₚ Jₚ Aₚ := by
  obtain ⟨a1, a2, a3, a4, a5, a6, a7⟩ := h
  exact ⟨a1, a2, gh_AO_trans h81 hs8 a2 ao a3, a4, a5, ⟨by omega, by omega, a6.2.2.1, fun k => (a6.2.2.2 k).trans (e21 k)⟩, a7⟩
theorem gh_Ym {E : gv_E} {Q Q' : gz_S → Nat → Nat → Prop} {u : gz_S} (h : ∀ v a s, Q v a s → Q' v a s) (k : gv_Y E Q u) : gv_Y E Q' u := by
  obtain ⟨n, v, a, s, g, q⟩ := k
  exact ⟨n, v, a, s, g, h v a s q⟩
theorem gc_YcallV {E : gv_E} {Q : gz_S → Nat → Nat → Prop} {pc ix b ci n n9 a s : Nat} {M : gx_M} {As st stk : List gz_V} {lv : List (Nat × gz_V)} {sh shₚ : gz_Sh} {h hₚ : gz_H} {T9 : u_T} {res : Option gz_V} (hD : gv_D E) (hi : E.2.2.2.2.2.2 pc = some (.invokevirtual ix)) (hk : stk = As.reverse ++ .inr (.inr (some b)) :: st) (hb : b < 1000000) (hs : sh[b]? = some (false, ci, n)) (hc : vwCl[ci]? = some (M.1.cls, T9, n9)) (hl : gx_lV E.1 E.2.1 ix M As.length) (h8 : (st.map gz_c).sum ≤ 8) (hK : E.2.2.2.2.2.1 M (.inr (.inr (some b)) :: As) sh h res shₚ hₚ a s) (hlv : ∀ q ∈ lv, gz_okv sh.length q.2) (hst : ∀ q ∈ st, gz_okv sh.length q) (kk : gv_Y E (fun v a' s' => Q v (a + a') (s + s')) (pc + 3, lv, res.toList ++ st, shₚ, hₚ)) : gv_Y E Q (pc, lv, stk, sh, h) :=
  gv_Yone (u' := (pc + 3, lv, res.toList ++ st, shₚ, hₚ)) (a := a) (s := s) (Or.inr (Or.inr (Or.inl ⟨ix, M, As, b, st, ci, n, T9, n9, res, hD pc _ hi, hk, hb, hs, hc, hl, h8, hK, Or.inr ⟨hlv, hst⟩, rfl, rfl, rfl⟩))) kk
/-- what readers alone write keeps the store -/
theorem gh_HS_r {sh : gz_Sh} {ro : Nat → Nat} {I Iₚ : gr_I} {J Jₚ : gr_J} {A : gc_A} (hs : gh_HS sh ro I J A) (hIₚ : gc_Inv ro Iₚ) (hok' : gc_OK sh Iₚ Jₚ A) (g : ∀ q j : Nat, (q = 23 ∨ (39 ≤ q ∧ q ≤ 47) ∨ (q = 1 ∧ j = 5)) ∨ Iₚ q j = I q j) (cu : -1 ≤ Iₚ 1 5 ∧ Iₚ 1 5 < I 8 1) : gh_HS sh ro Iₚ Jₚ A ∧ gh_AO sh ro I A sh ro Iₚ A := by
  have fz : ∀ q j : Nat, ¬ (q = 23 ∨ (39 ≤ q ∧ q ≤ 47) ∨ (q = 1 ∧ j = 5)) → Iₚ q j = I q j := fun q j h => (g q j).resolve_left h
  have fu : gh_FU I Iₚ := gh_FU_of (fz 4 1 (by omega)) (fun j => fz 11 j (by omega)) (fun j => fz 12 j (by omega)) (fun j => fz 13 j (by omega))
  exact gh_HS_s hs hIₚ hok' (fun q j _ => (g q j).imp (fun h => by unfold gh_mw; omega) id) (fun q j h1 => fz q j (by omega)) (fz 8 1 (by omega)) cu (by have := fz 2 1 (by omega); omega) fu (gh_ME_of (fun j => fz 15 j (by omega)) (fun j => fz 16 j (by omega))) (gh_MS_st hs.2.2.2.2.2.1 fu (fun j => fz 15 j (by omega)) (fun j => fz 16 j (by omega)))
