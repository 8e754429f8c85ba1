def gh_n1 (o : Option Nat) : Nat := match o with
  | none => 1
  | some _ => 0
def gh_nl (A : gc_A) : Nat := gh_n1 (A 10 0) + gh_n1 (A 10 1) + gh_n1 (A 10 2) + gh_n1 (A 10 3) + gh_n1 (A 10 4) + gh_n1 (A 10 5) + gh_n1 (A 10 6) + gh_n1 (A 10 7)
theorem gh_nl_eq {A A' : gc_A} (h : ∀ i, i < 8 → A' 10 i = A 10 i) : gh_nl A' = gh_nl A := by
  unfold gh_nl
  rw [h 0 (by decide), h 1 (by decide), h 2 (by decide), h 3 (by decide), h 4 (by decide), h 5 (by decide), h 6 (by decide), h 7 (by decide)]
set_option maxHeartbeats 8000000 in
theorem gh_nl_set {A A' : gc_A} {n t : Nat} (hn : n < 8) (h : ∀ i, ¬ i = n → A' 10 i = A 10 i) (h0 : A 10 n = none) (h1 : A' 10 n = some t) : gh_nl A' + 1 = gh_nl A := by
  have e0 : gh_n1 (A 10 n) = 1 := by rw [h0]; rfl
  have e1 : gh_n1 (A' 10 n) = 0 := by rw [h1]; rfl
  unfold gh_nl
  match n, hn with
  | 0, _ =>
    rw [h 1 (by decide), h 2 (by decide), h 3 (by decide), h 4 (by decide), h 5 (by decide), h 6 (by decide), h 7 (by decide)]
    exact gz_m 0 (by omega)
  | 1, _ =>
    rw [h 0 (by decide), h 2 (by decide), h 3 (by decide), h 4 (by decide), h 5 (by decide), h 6 (by decide), h 7 (by decide)]
    exact gz_m 1 (by omega)
  | 2, _ =>
    rw [h 0 (by decide), h 1 (by decide), h 3 (by decide), h 4 (by decide), h 5 (by decide), h 6 (by decide), h 7 (by decide)]
    exact gz_m 2 (by omega)
  | 3, _ =>
    rw [h 0 (by decide), h 1 (by decide), h 2 (by decide), h 4 (by decide), h 5 (by decide), h 6 (by decide), h 7 (by decide)]
    exact gz_m 3 (by omega)
  | 4, _ =>
    rw [h 0 (by decide), h 1 (by decide), h 2 (by decide), h 3 (by decide), h 5 (by decide), h 6 (by decide), h 7 (by decide)]
    exact gz_m 4 (by omega)
  | 5, _ =>
    rw [h 0 (by decide), h 1 (by decide), h 2 (by decide), h 3 (by decide), h 4 (by decide), h 6 (by decide), h 7 (by decide)]
    exact gz_m 5 (by omega)
  | 6, _ =>
    rw [h 0 (by decide), h 1 (by decide), h 2 (by decide), h 3 (by decide), h 4 (by decide), h 5 (by decide), h 7 (by decide)]
    exact gz_m 6 (by omega)
  | 7, _ =>
    rw [h 0 (by decide), h 1 (by decide), h 2 (by decide), h 3 (by decide), h 4 (by decide), h 5 (by decide), h 6 (by decide)]
    exact gz_m 7 (by omega)
  | _ + 8, h9 => exact absurd h9 (by exact gz_m 8 (by omega))
def gh_RS (B : Int) (sh : gz_Sh) (ro : Nat → Nat) (I : gr_I) (A : gc_A) (z : Int) (a s : Nat) (sh' : gz_Sh) (ro' : Nat → Nat) (I' : gr_I) (J' : gr_J) (A' : gc_A) : Prop := (0 ≤ z ∧ z ≤ 1) ∧ gh_HS sh' ro' I' J' A' ∧ gh_AO sh ro I A sh' ro' I' A' ∧ gc_LT I' ∧ gc_TK I' ∧ (I' 23 1 = I 23 1 ∧ I 23 5 ≤ I' 23 5 ∧ I' 1 17 + I' 23 1 ≤ B + I' 23 5 ∧ ∀ k, I' 21 k = I 21 k) ∧ (a + 25 * gh_nl A' ≤ 25 * gh_nl A + 9 ∧ s + 45714 * gh_nl A' ≤ 45714 * gh_nl A + 82 ∧ sh'.length + 25 * gh_nl A' ≤ sh.length + 25 * gh_nl A + 9)
theorem gh_RS_pre {sh sh' : gz_Sh} {ro ro' : Nat → Nat} {I I8 I' : gr_I} {J8 J' : gr_J} {A A' : gc_A} {z B : Int} {a s : Nat} (h81 : I 8 1 ≤ 8) (hs8 : gh_HS sh ro I8 J8 A) (ao : gh_AO sh ro I A sh ro I8 A) (e1 : I8 23 1 = I 23 1) (e5 : I 23 5 ≤ I8 23 5) (e21 : ∀ k, I8 21 k = I 21 k) (h : gh_RS B sh ro I8 A z a s sh' ro' I' J' A') : gh_RS B sh ro I A z a s sh' ro' I' J' A' := by
  obtain ⟨a1, a2, a3, a4, a5, a6, a7⟩ := h
  exact ⟨a1, a2, gh_AO_trans h81 hs8 a2 ao a3, a4, a5, ⟨by omega, by omega, a6.2.2.1, fun k => (a6.2.2.2 k).trans (e21 k)⟩, a7⟩
theorem gh_Ym {E : gv_E} {Q Q' : gz_S → Nat → Nat → Prop} {u : gz_S} (h : ∀ v a s, Q v a s → Q' v a s) (k : gv_Y E Q u) : gv_Y E Q' u := by
  obtain ⟨n, v, a, s, g, q⟩ := k
  exact ⟨n, v, a, s, g, h v a s q⟩
theorem gc_YcallV {E : gv_E} {Q : gz_S → Nat → Nat → Prop} {pc ix b ci n n9 a s : Nat} {M : gx_M} {As st stk : List gz_V} {lv : List (Nat × gz_V)} {sh sh' : gz_Sh} {h h' : gz_H} {T9 : u_T} {res : Option gz_V} (hD : gv_D E) (hi : E.2.2.2.2.2.2 pc = some (.invokevirtual ix)) (hk : stk = As.reverse ++ .inr (.inr (some b)) :: st) (hb : b < 1000000) (hs : sh[b]? = some (false, ci, n)) (hc : vwCl[ci]? = some (M.1.cls, T9, n9)) (hl : gx_lV E.1 E.2.1 ix M As.length) (h8 : (st.map gz_c).sum ≤ 8) (hK : E.2.2.2.2.2.1 M (.inr (.inr (some b)) :: As) sh h res sh' h' a s) (hlv : ∀ q ∈ lv, gz_okv sh.length q.2) (hst : ∀ q ∈ st, gz_okv sh.length q) (kk : gv_Y E (fun v a' s' => Q v (a + a') (s + s')) (pc + 3, lv, res.toList ++ st, sh', h')) : gv_Y E Q (pc, lv, stk, sh, h) :=
  gv_Yone (u' := (pc + 3, lv, res.toList ++ st, sh', h')) (a := a) (s := s) (Or.inr (Or.inr (Or.inl ⟨ix, M, As, b, st, ci, n, T9, n9, res, hD pc _ hi, hk, hb, hs, hc, hl, h8, hK, Or.inr ⟨hlv, hst⟩, rfl, rfl, rfl⟩))) kk
set_option maxHeartbeats 8000000 in
/-- what readers alone write keeps the store -/
theorem gh_HS_r {sh : gz_Sh} {ro : Nat → Nat} {I I' : gr_I} {J J' : gr_J} {A : gc_A} (hs : gh_HS sh ro I J A) (hI' : gc_Inv ro I') (hok' : gc_OK sh I' J' A) (g : ∀ q j : Nat, (q = 23 ∨ (39 ≤ q ∧ q ≤ 47) ∨ (q = 1 ∧ j = 5)) ∨ I' q j = I q j) (cu : -1 ≤ I' 1 5 ∧ I' 1 5 < I 8 1) : gh_HS sh ro I' J' A ∧ gh_AO sh ro I A sh ro I' A := by
  have fz : ∀ q j : Nat, ¬ (q = 23 ∨ (39 ≤ q ∧ q ≤ 47) ∨ (q = 1 ∧ j = 5)) → I' q j = I q j := fun q j h => (g q j).resolve_left h
  have fu : gh_FU I I' := gh_FU_of (fz 4 1 (by exact gz_m 0 (by omega))) (fun j => fz 11 j (by exact gz_m 1 (by omega))) (fun j => fz 12 j (by exact gz_m 2 (by omega))) (fun j => fz 13 j (by exact gz_m 3 (by omega)))
  exact gh_HS_s hs hI' hok' (fun q j _ => (g q j).imp (fun h => by unfold gh_mw; exact gz_m 4 (by omega)) id) (fun q j h1 => fz q j (by exact gz_m 5 (by omega))) (fz 8 1 (by exact gz_m 6 (by omega))) cu (by have := fz 2 1 (by exact gz_m 7 (by omega)); exact gz_m 8 (by omega)) fu (gh_ME_of (fun j => fz 15 j (by exact gz_m 9 (by omega))) (fun j => fz 16 j (by exact gz_m 10 (by omega)))) (gh_MS_st hs.2.2.2.2.2.1 fu (fun j => fz 15 j (by exact gz_m 11 (by omega))) (fun j => fz 16 j (by exact gz_m 12 (by omega))))
