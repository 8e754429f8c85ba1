/-! the reference's module as a row of states; what its statements keep -/
section SA
variable {Ir Irₚ : gr_I} {Jr Jrₚ : gr_J} {I Iₚ : gr_I} {J Jₚ : gr_J} {A Aₚ : gc_A}
/-- R speaks of what is told alone -/
theorem gs_R_ts (h : gs_R I J A Ir Jr) (ts : gs_TsX [] Ir Jr Irₚ Jrₚ) : gs_R I J A Irₚ Jrₚ := by
  obtain ⟨n2, n4, n6, n8, gf, gk, hc, hT, h0⟩ := h
  have ra : gs_rA Ir Jr Irₚ Jrₚ := gs_rA_ts ts rfl
  exact ⟨gs_GN_fr n2 rfl (fun _ => rfl) (ts.1 2 rfl rfl) (ts.2.2 2 rfl rfl), gs_GN_fr n4 rfl (fun _ => rfl) (ts.1 3 rfl rfl) (ts.2.2 3 rfl rfl), gs_GN_fr n6 rfl (fun _ => rfl) (ts.1 4 rfl rfl) (ts.2.2 4 rfl rfl), gs_GN_fr n8 rfl (fun _ => rfl) (ts.1 1 rfl rfl) (ts.2.2 1 rfl rfl), gs_GF_fr gf rfl (fun _ => rfl) (fun _ => rfl) (ts.1 5 rfl rfl) (fun k => ⟨ts.2.2 5 rfl rfl k, ts.2.1 11 rfl rfl k, ts.2.1 12 rfl rfl k⟩), gs_GK_fr gk rfl (fun _ => rfl) (fun _ => rfl) (fun _ => rfl) (fun _ => rfl) (fun k => ⟨ts.2.1 6 rfl rfl k, ts.2.1 7 rfl rfl k, ts.2.1 8 rfl rfl k, ts.2.1 10 rfl rfl k⟩) (fun _ => rfl) (fun k => ts.2.1 9 rfl rfl k), hc.trans (ts.1 6 rfl rfl).symm, fun i t hi hA => gs_RT_fr (hT i t hi hA) ⟨⟨rfl, fun _ => rfl⟩, ⟨rfl, fun _ => rfl, fun _ => rfl, fun _ => rfl⟩, ⟨rfl, fun _ => rfl⟩, rfl, ⟨rfl, fun _ => rfl, fun _ => rfl, fun _ => rfl⟩, rfl, rfl, fun k q _ hA => ⟨hA, rfl⟩⟩ ra, gs_G0_fr h0 (by rw [ts.1 1 rfl rfl]; exact Int.le_refl _) (fun i _ _ => ra.1 i)⟩
theorem gs_Ts_sy {m : List Nat} (h : gs_TsX m Ir Jr Irₚ Jrₚ) : gs_TsX m Irₚ Jrₚ Ir Jr := ⟨fun f a b => (h.1 f a b).symm, fun a b c j => (h.2.1 a b c j).symm, fun a b c j => (h.2.2 a b c j).symm⟩
end SA
/-- the counts grow -/
def gs_MN (Ir0 Ir : gr_I) : Prop := (Ir0 0 1 ≤ Ir 0 1 ∧ Ir0 0 2 ≤ Ir 0 2 ∧ Ir0 0 3 ≤ Ir 0 3 ∧ Ir0 0 4 ≤ Ir 0 4 ∧ Ir0 0 5 ≤ Ir 0 5) ∧ ∀ j : Nat, Ir0 13 j ≤ Ir 13 j ∧ Ir0 14 j ≤ Ir 14 j ∧ Ir0 15 j ≤ Ir 15 j ∧ Ir0 17 j ≤ Ir 17 j ∧ Ir0 19 j ≤ Ir 19 j
/-- which FUNS had a MEAN at first, which came since -/
def gs_ML (Ir0 Ir : gr_I) : Prop := 0 ≤ Ir 0 99 ∧ (∀ f : Nat, (f : Int) < Ir0 0 3 → (0 ≤ Ir 10 f ↔ 0 ≤ Ir0 10 f ∨ ∃ j : Nat, (j : Int) < Ir 0 99 ∧ Int.toNat (Ir 60 j) = f)) ∧ ∀ j : Nat, (j : Int) < Ir 0 99 → (Int.toNat (Ir 60 j) : Int) < Ir0 0 3 → ¬ 0 ≤ Ir0 10 (Int.toNat (Ir 60 j))
def gs_CZ (Ir0 Ir : gr_I) : Prop := gs_MN Ir0 Ir ∧ gs_ML Ir0 Ir
section SB
variable {Ir0 Ir Irₚ : gr_I} {Jr Jrₚ : gr_J} {β : Int → Int} {N p : Int}
theorem gs_MN_ts (h : gs_MN Ir0 Ir) (ts : gs_TsX [] Ir Jr Irₚ Jrₚ) : gs_MN Ir0 Irₚ := by
  refine ⟨?_, fun j => ?_⟩
  · rw [ts.1 1 rfl rfl, ts.1 2 rfl rfl, ts.1 3 rfl rfl, ts.1 4 rfl rfl, ts.1 5 rfl rfl]
    exact h.1
  · rw [ts.2.1 13 rfl rfl, ts.2.1 14 rfl rfl, ts.2.1 15 rfl rfl, ts.2.1 17 rfl rfl, ts.2.1 19 rfl rfl]
    exact h.2 j
theorem gs_ML_fr (h : gs_ML Ir0 Ir) (e : Irₚ 0 99 = Ir 0 99) (r : ∀ f : Nat, (f : Int) < Ir0 0 3 → Irₚ 10 f = Ir 10 f) (l : ∀ j, Irₚ 60 j = Ir 60 j) : gs_ML Ir0 Irₚ := by
  refine ⟨by rw [e]; exact h.1, fun f hf => ?_, fun j hj hl => ?_⟩
  · rw [r f hf, h.2.1 f hf]
    constructor
    · rintro (a | ⟨j, a, b⟩)
      · exact Or.inl a
      · exact Or.inr ⟨j, by omega, by rw [l]; exact b⟩
    · rintro (a | ⟨j, a, b⟩)
      · exact Or.inl a
      · exact Or.inr ⟨j, by omega, by rw [l] at b; exact b⟩
  · rw [l] at hl ⊢
    exact h.2.2 j (by omega) hl
theorem gs_CZ_ts (h : gs_CZ Ir0 Ir) (ts : gs_TsX [] Ir Jr Irₚ Jrₚ) : gs_CZ Ir0 Irₚ := ⟨gs_MN_ts h.1 ts, gs_ML_fr h.2 (ts.1 99 rfl rfl) (fun f _ => ts.2.1 10 rfl rfl f) (fun j => ts.2.1 60 rfl rfl j)⟩
/-- a good MEAN was not there yet -/
theorem gs_mn_n {first : Int} (h : 0 ≤ gs_mn β N Ir Jr first p) (hA : 0 ≤ gs_A β N p) : 0 ≤ gs_lk Ir Jr 3 3 (gs_rn β N p) ∧ ¬ 0 ≤ Ir 10 (Int.toNat (gs_lk Ir Jr 3 3 (gs_rn β N p))) := by
  by_cases t : gs_T β N p = 1
  · have e : gs_mn β N Ir Jr first p = gs_mn0 β N Ir first (gs_lk Ir Jr 3 3 (gs_rn β N p)) p := if_pos t
    rw [e] at h
    by_cases c : gs_lk Ir Jr 3 3 (gs_rn β N p) < 0
    · rw [show gs_mn0 β N Ir first (gs_lk Ir Jr 3 3 (gs_rn β N p)) p = -1 - gs_A β N p from if_pos c] at h
      omega
    · refine ⟨by omega, fun d => ?_⟩
      rw [show gs_mn0 β N Ir first (gs_lk Ir Jr 3 3 (gs_rn β N p)) p = -1 - gs_A β N p from (if_neg c).trans (if_pos d)] at h
      omega
  · rw [show gs_mn β N Ir Jr first p = -1 - gs_A β N p from if_neg t] at h
    omega
theorem gs_ML_mn {f9 : Int} (h : gs_ML Ir0 Ir) (h3 : Ir0 0 3 ≤ Ir 0 3) (f0 : 0 ≤ f9) (hn : ¬ 0 ≤ Ir 10 (Int.toNat f9)) (u : gs_Umn f9 Ir Irₚ) : gs_ML Ir0 Irₚ := by
  obtain ⟨u1, u2, u3, u4, u5⟩ := u
  have n0 := h.1
  have hne : ∀ j : Nat, (j : Int) < Ir 0 99 → Irₚ 60 j = Ir 60 j := fun j hj => u5 j (by omega)
  refine ⟨by omega, fun f hf => ?_, fun j hj hl => ?_⟩
  · by_cases c : f = Int.toNat f9
    · rw [c]
      exact ⟨fun _ => Or.inr ⟨Int.toNat (Ir 0 99), by omega, by rw [u4]⟩, fun _ => u1⟩
    · rw [u2 f c, h.2.1 f hf]
      constructor
      · rintro (a | ⟨j, a, b⟩)
        · exact Or.inl a
        · exact Or.inr ⟨j, by omega, by rw [hne j a]; exact b⟩
      · rintro (a | ⟨j, a, b⟩)
        · exact Or.inl a
        · by_cases d : (j : Int) < Ir 0 99
          · exact Or.inr ⟨j, d, by rw [← hne j d]; exact b⟩
          · rw [show j = Int.toNat (Ir 0 99) from by omega, u4] at b
            exact absurd b.symm c
  · by_cases d : (j : Int) < Ir 0 99
    · rw [hne j d] at hl ⊢
      exact h.2.2 j d hl
    · rw [show j = Int.toNat (Ir 0 99) from by omega, u4] at hl ⊢
      intro q
      exact hn ((h.2.1 (Int.toNat f9) hl).mpr (Or.inl q))
/-- a good statement keeps it -/
theorem gs_CZ_st (h : gs_CZ Ir0 Ir) (hA : 0 ≤ gs_A β N (gs_X β N p)) (hs : 0 ≤ gs_stc β N Ir Jr p) (hT : gs_T β N p = 1) (u : gs_STU β N p Ir Jr Irₚ Jrₚ) : gs_CZ Ir0 Irₚ := by
  obtain ⟨k, ek, uk⟩ := u
  obtain ⟨⟨⟨m1, m2, m3, m4, m5⟩, mr⟩, hL⟩ := h
  have r := gs_UK_r uk
  have fld : ∀ m : List Nat, gs_TsX m Ir Jr Irₚ Jrₚ → (([13, 14, 15, 17, 19].all (fun a => !(m.elem a))) = true) → ∀ j : Nat, Ir0 13 j ≤ Irₚ 13 j ∧ Ir0 14 j ≤ Irₚ 14 j ∧ Ir0 15 j ≤ Irₚ 15 j ∧ Ir0 17 j ≤ Irₚ 17 j ∧ Ir0 19 j ≤ Irₚ 19 j := fun m ts hm j => by
    simp only [List.all_cons, List.all_nil, Bool.and_true, Bool.and_eq_true, Bool.not_eq_true'] at hm
    obtain ⟨a, b, c, d, e⟩ := hm
    rw [ts.2.1 13 rfl a, ts.2.1 14 rfl b, ts.2.1 15 rfl c, ts.2.1 17 rfl d, ts.2.1 19 rfl e]
    exact mr j
  have one : ∀ {x y : gr_I} {cr : Nat} {t : Nat} (_ : x cr t = y cr t + 1) (_ : ∀ j, ¬ j = t → x cr j = y cr j), ∀ j, y cr j ≤ x cr j := fun {x y cr t} a b j => by
    by_cases c : j = t
    · rw [c]
      omega
    · rw [b j c]
      exact Int.le_refl _
  have hl : ∀ m : List Nat, gs_TsX m Ir Jr Irₚ Jrₚ → m.elem 199 = false → m.elem 10 = false → m.elem 60 = false → gs_ML Ir0 Irₚ := fun m ts a b c => gs_ML_fr hL (ts.1 99 rfl a) (fun f _ => ts.2.1 10 rfl b f) (fun j => ts.2.1 60 rfl c j)
  have hk : k = 80 ∨ k = 81 ∨ k = 82 ∨ k = 83 ∨ k = 84 ∨ k = 85 ∨ k = 86 ∨ k = 87 ∨ k = 88 ∨ k = 89 ∨ k = 90 ∨ k = 91 := by omega
  rcases hk with e | e | e | e | e | e | e | e | e | e | e | e <;> subst e
  · obtain ⟨⟨a, b⟩, ts⟩ := uk
    refine ⟨⟨⟨?_, by rw [ts.1 2 rfl rfl]; exact m2, by rw [ts.1 3 rfl rfl]; exact m3, by rw [ts.1 4 rfl rfl]; exact m4, by rw [ts.1 5 rfl rfl]; exact m5⟩, fld _ ts rfl⟩, hl _ ts rfl rfl rfl⟩
    by_cases c : gs_lk Ir Jr 1 1 (gs_rn β N (gs_X β N p)) < 0
    · have := (a c).1.1
      omega
    · have := (b (by omega)).1.1
      omega
  · obtain ⟨a, ts⟩ := uk
    exact ⟨⟨⟨by rw [ts.1 1 rfl rfl]; exact m1, by have := a.1; omega, by rw [ts.1 3 rfl rfl]; exact m3, by rw [ts.1 4 rfl rfl]; exact m4, by rw [ts.1 5 rfl rfl]; exact m5⟩, fld _ ts rfl⟩, hl _ ts rfl rfl rfl⟩
  · obtain ⟨⟨a, _⟩, ts⟩ := uk
    refine ⟨⟨⟨by rw [ts.1 1 rfl rfl]; exact m1, by rw [ts.1 2 rfl rfl]; exact m2, by have := a.1; omega, by rw [ts.1 4 rfl rfl]; exact m4, by rw [ts.1 5 rfl rfl]; exact m5⟩, fld _ ts rfl⟩, gs_ML_fr hL (ts.1 99 rfl rfl) (fun f hf => (a.2.2.2.1 f (by omega)).2.2.2) (fun j => ts.2.1 60 rfl rfl j)⟩
  · obtain ⟨⟨⟨a1, a2⟩, _, ⟨a3, a4⟩, _, _⟩, ts⟩ := uk
    refine ⟨⟨⟨by rw [ts.1 1 rfl rfl]; exact m1, by rw [ts.1 2 rfl rfl]; exact m2, by rw [ts.1 3 rfl rfl]; exact m3, by rw [ts.1 4 rfl rfl]; exact m4, by rw [ts.1 5 rfl rfl]; exact m5⟩, fun j => ?_⟩, hl _ ts rfl rfl rfl⟩
    have g := mr j
    have x := one a1 a2 j
    have y : Ir 14 j ≤ Irₚ 14 j := by
      by_cases c : j = Int.toNat (Ir 0 6)
      · rw [c]
        omega
      · rw [a4 j c]
        exact Int.le_refl _
    rw [ts.2.1 15 rfl rfl, ts.2.1 17 rfl rfl, ts.2.1 19 rfl rfl]
    omega
  · obtain ⟨⟨⟨a1, a2, _, _⟩, _⟩, ts⟩ := uk
    refine ⟨⟨⟨by rw [ts.1 1 rfl rfl]; exact m1, by rw [ts.1 2 rfl rfl]; exact m2, by rw [ts.1 3 rfl rfl]; exact m3, by rw [ts.1 4 rfl rfl]; exact m4, by rw [ts.1 5 rfl rfl]; exact m5⟩, fun j => ?_⟩, hl _ ts rfl rfl rfl⟩
    have g := mr j
    have x := one a1 a2 j
    rw [ts.2.1 13 rfl rfl, ts.2.1 14 rfl rfl, ts.2.1 17 rfl rfl, ts.2.1 19 rfl rfl]
    omega
  · obtain ⟨_, ts⟩ := uk
    exact ⟨⟨⟨by rw [ts.1 1 rfl rfl]; exact m1, by rw [ts.1 2 rfl rfl]; exact m2, by rw [ts.1 3 rfl rfl]; exact m3, by rw [ts.1 4 rfl rfl]; exact m4, by rw [ts.1 5 rfl rfl]; exact m5⟩, fld _ ts rfl⟩, hl _ ts rfl rfl rfl⟩
  · obtain ⟨⟨⟨a1, a2, _⟩, _⟩, ts⟩ := uk
    refine ⟨⟨⟨by rw [ts.1 1 rfl rfl]; exact m1, by rw [ts.1 2 rfl rfl]; exact m2, by rw [ts.1 3 rfl rfl]; exact m3, by rw [ts.1 4 rfl rfl]; exact m4, by rw [ts.1 5 rfl rfl]; exact m5⟩, fun j => ?_⟩, hl _ ts rfl rfl rfl⟩
    have g := mr j
    have x := one a1 a2 j
    rw [ts.2.1 13 rfl rfl, ts.2.1 14 rfl rfl, ts.2.1 15 rfl rfl, ts.2.1 19 rfl rfl]
    omega
  · obtain ⟨_, ts⟩ := uk
    exact ⟨⟨⟨by rw [ts.1 1 rfl rfl]; exact m1, by rw [ts.1 2 rfl rfl]; exact m2, by rw [ts.1 3 rfl rfl]; exact m3, by rw [ts.1 4 rfl rfl]; exact m4, by rw [ts.1 5 rfl rfl]; exact m5⟩, fld _ ts rfl⟩, hl _ ts rfl rfl rfl⟩
  · obtain ⟨⟨a1, a2, _⟩, ts⟩ := uk
    refine ⟨⟨⟨by rw [ts.1 1 rfl rfl]; exact m1, by rw [ts.1 2 rfl rfl]; exact m2, by rw [ts.1 3 rfl rfl]; exact m3, by rw [ts.1 4 rfl rfl]; exact m4, by rw [ts.1 5 rfl rfl]; exact m5⟩, fun j => ?_⟩, hl _ ts rfl rfl rfl⟩
    have g := mr j
    have x := one a1 a2 j
    rw [ts.2.1 13 rfl rfl, ts.2.1 14 rfl rfl, ts.2.1 15 rfl rfl, ts.2.1 17 rfl rfl]
    omega
  · obtain ⟨a, ts⟩ := uk
    have e : gs_stc β N Ir Jr p = gs_mn β N Ir Jr (gs_A β N p) (gs_X β N p) := (if_pos hT).trans (gs_stk_89 ek)
    rw [e] at hs
    obtain ⟨c1, c2⟩ := gs_mn_n hs hA
    exact ⟨⟨⟨by rw [ts.1 1 rfl rfl]; exact m1, by rw [ts.1 2 rfl rfl]; exact m2, by rw [ts.1 3 rfl rfl]; exact m3, by rw [ts.1 4 rfl rfl]; exact m4, by rw [ts.1 5 rfl rfl]; exact m5⟩, fld _ ts rfl⟩, gs_ML_mn hL m3 c1 c2 a⟩
  · obtain ⟨a, ts⟩ := uk
    exact ⟨⟨⟨by rw [ts.1 1 rfl rfl]; exact m1, by rw [ts.1 2 rfl rfl]; exact m2, by rw [ts.1 3 rfl rfl]; exact m3, by have := a.1; omega, by rw [ts.1 5 rfl rfl]; exact m5⟩, fld _ ts rfl⟩, hl _ ts rfl rfl rfl⟩
  · obtain ⟨a, ts⟩ := uk
    refine ⟨⟨⟨by rw [ts.1 1 rfl rfl]; exact m1, by rw [ts.1 2 rfl rfl]; exact m2, by rw [ts.1 3 rfl rfl]; exact m3, by rw [ts.1 4 rfl rfl]; exact m4, ?_⟩, fld _ ts rfl⟩, hl _ ts rfl rfl rfl⟩
    by_cases c : gs_isf Ir Jr (gs_rn β N (gs_X β N p)) (gs_lk Ir Jr 4 4 (gs_rn β N (gs_X β N (gs_X β N p)))) (gs_fb β N Ir Jr (gs_X β N (gs_X β N (gs_X β N p)))) = 1
    · have := (a.1 c).1
      omega
    · have := (a.2 c).1.1
      omega
end SB
/-- n good statements, as rows of places and tables -/
def gs_MQ (β : Int → Int) (N : Int) (n : Nat) (I0 : gr_I) (J0 : gr_J) (Q : Nat → Int) (II : Nat → gr_I) (JJ : Nat → gr_J) : Prop := Q 0 = 0 ∧ (gs_TsX [] I0 J0 (II 0) (JJ 0) ∧ gr_LV I0 (II 0)) ∧ ∀ k : Nat, k < n → ¬ gs_T β N (Q k) = 4 ∧ gs_SS β N (Q k) (II k) (JJ k) (II (k + 1)) (JJ (k + 1)) (Q (k + 1))
set_option maxHeartbeats 8000000 in
theorem gs_MR_MQ {β : Int → Int} {N : Int} {I0 : gr_I} {J0 : gr_J} : ∀ (n : Nat) (q : Int) (Iₚ : gr_I) (Jₚ : gr_J), gs_MR β N n 0 I0 J0 q Iₚ Jₚ → ∃ (Q : Nat → Int) (II : Nat → gr_I) (JJ : Nat → gr_J), gs_MQ β N n I0 J0 Q II JJ ∧ Q n = q ∧ II n = Iₚ ∧ JJ n = Jₚ
  | 0, q, Iₚ, Jₚ, h => ⟨fun _ => 0, fun _ => Iₚ, fun _ => Jₚ, ⟨rfl, h.2, fun k hk => absurd hk (by exact gz_m 0 (by omega))⟩, h.1.symm, rfl, rfl⟩
  | n + 1, q, Iₚ, Jₚ, h => by
    obtain ⟨q1, I1, J1, a, b, c⟩ := h
    obtain ⟨Q, II, JJ, ⟨m0, m1, m2⟩, e1, e2, e3⟩ := gs_MR_MQ n q1 I1 J1 a
    refine ⟨fun k => if k ≤ n then Q k else q, fun k => if k ≤ n then II k else Iₚ, fun k => if k ≤ n then JJ k else Jₚ, ⟨m0, m1, fun k hk => ?_⟩, if_neg (by exact gz_m 1 (by omega)), if_neg (by exact gz_m 2 (by omega)), if_neg (by exact gz_m 3 (by omega))⟩
    by_cases d : k < n
    · show ¬ gs_T β N (if k ≤ n then Q k else q) = 4 ∧ gs_SS β N (if k ≤ n then Q k else q) (if k ≤ n then II k else Iₚ) (if k ≤ n then JJ k else Jₚ) (if k + 1 ≤ n then II (k + 1) else Iₚ) (if k + 1 ≤ n then JJ (k + 1) else Jₚ) (if k + 1 ≤ n then Q (k + 1) else q)
      rw [if_pos (show k ≤ n by exact gz_m 4 (by omega)), if_pos (show k ≤ n by exact gz_m 5 (by omega)), if_pos (show k ≤ n by exact gz_m 6 (by omega)), if_pos (show k + 1 ≤ n by exact gz_m 7 (by omega)), if_pos (show k + 1 ≤ n by exact gz_m 8 (by omega)), if_pos (show k + 1 ≤ n by exact gz_m 9 (by omega))]
      exact m2 k d
    · have kn : k = n := by exact gz_m 10 (by omega)
      subst kn
      show ¬ gs_T β N (if k ≤ k then Q k else q) = 4 ∧ gs_SS β N (if k ≤ k then Q k else q) (if k ≤ k then II k else Iₚ) (if k ≤ k then JJ k else Jₚ) (if k + 1 ≤ k then II (k + 1) else Iₚ) (if k + 1 ≤ k then JJ (k + 1) else Jₚ) (if k + 1 ≤ k then Q (k + 1) else q)
      rw [if_pos (Nat.le_refl _), if_pos (Nat.le_refl _), if_pos (Nat.le_refl _), if_neg (by exact gz_m 11 (by omega)), if_neg (by exact gz_m 12 (by omega)), if_neg (by exact gz_m 13 (by omega)), e1, e2, e3]
      exact ⟨b, c⟩
