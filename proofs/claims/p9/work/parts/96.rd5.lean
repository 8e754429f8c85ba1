/-! R for CLASSES and SOUND RULES: alike on both sides, through statements and modules (p8) -/
section KC
variable {I Iₚ : gr_I} {t a b : Nat} {f f' M M' P P' : Nat → Int} {cl cl' m m' r : Int}
theorem so_okc_kp {c : Nat} (h : so_okc cl m f c) (hc : cl ≤ cl') (hm : m ≤ m') (e0 : f' c = f c) (e1 : f' (c + 1) = f (c + 1)) (e2 : f' (c + 2) = f (c + 2)) : so_okc cl' m' f' c := by
  unfold so_okc
  rw [e0, e1, e2]
  rcases h with g | g | g
  · exact Or.inl g
  · exact Or.inr (Or.inl ⟨g.1, g.2.1, by omega⟩)
  · exact Or.inr (Or.inr ⟨g.1, g.2.1, g.2.2.1, by omega⟩)
theorem so_side_kp (h : so_okv cl m f a b) (lm : ∀ j : Nat, (j : Int) < cl → M' j = M j) (l : ∀ j : Nat, (j : Int) < m → P' j = P j) (ea : f' a = f a) (e : ∀ j, j < 9 → f' (b + j) = f (b + j)) : ((Int.toNat (f' a), so_ct (Int.toNat (f' a)) (fun k => so_cx M' P' f' (b + 3 * k))) : Nat × (Nat → so_it)) = (Int.toNat (f a), so_ct (Int.toNat (f a)) (fun k => so_cx M P f (b + 3 * k))) := by
  rw [ea]
  refine congrArg (Prod.mk _) (funext fun k => ?_)
  unfold so_ct
  by_cases g : k < Int.toNat (f a)
  · rw [if_pos g, if_pos g]
    have h1 := h.1
    exact so_cx_kp (h.2 k (by omega)) lm l (e (3 * k) (by omega)) (by rw [Nat.add_assoc]; exact e (3 * k + 1) (by omega)) (by rw [Nat.add_assoc]; exact e (3 * k + 2) (by omega))
  · rw [if_neg g, if_neg g]
theorem so_okv_kp (h : so_okv cl m f a b) (hc : cl ≤ cl') (hm : m ≤ m') (ea : f' a = f a) (e : ∀ j, j < 9 → f' (b + j) = f (b + j)) : so_okv cl' m' f' a b := by
  have h1 := h.1
  refine ⟨by rw [ea]; exact h1, fun k hk => ?_⟩
  rw [ea] at hk
  exact so_okc_kp (h.2 k hk) hc hm (e (3 * k) (by omega)) (by rw [Nat.add_assoc]; exact e (3 * k + 1) (by omega)) (by rw [Nat.add_assoc]; exact e (3 * k + 2) (by omega))
/-- a RULE of the class stays as it is -/
theorem so_rc_kp (h : so_okrc I t r) (l : gc_PKs I Iₚ) (c7 : I (t + 7) 1 ≤ Iₚ (t + 7) 1) (mk : ∀ k : Nat, (k : Int) < I (t + 7) 1 → Iₚ (t + 9) k = I (t + 9) k) (e : ∀ k : Nat, k < 25 → Iₚ (t + 10) (Int.toNat (25 * r) + k) = I (t + 10) (Int.toNat (25 * r) + k)) : so_rc Iₚ t r = so_rc I t r ∧ so_okrc Iₚ t r := by
  obtain ⟨h0, ⟨h3, h4⟩, h5, h6⟩ := h
  refine ⟨Prod.ext (so_cx_kp h0 mk l.2 (e 0 (by decide)) (e 1 (by decide)) (e 2 (by decide))) (Prod.ext ?_ (Prod.ext (so_side_kp (f' := fun k => Iₚ (t + 10) (Int.toNat (25 * r) + k)) h5 mk l.2 (e 5 (by decide)) (fun j hj => e (7 + j) (by omega))) (so_side_kp (f' := fun k => Iₚ (t + 10) (Int.toNat (25 * r) + k)) h6 mk l.2 (e 6 (by decide)) (fun j hj => e (16 + j) (by omega))))), so_okc_kp h0 c7 l.1 (e 0 (by decide)) (e 1 (by decide)) (e 2 (by decide)), ?_, so_okv_kp h5 c7 l.1 (e 5 (by decide)) (fun j hj => e (7 + j) (by omega)), so_okv_kp h6 c7 l.1 (e 6 (by decide)) (fun j hj => e (16 + j) (by omega))⟩
  · show (Iₚ (t + 10) (Int.toNat (25 * r) + 4), so_cut (Iₚ (t + 10) (Int.toNat (25 * r) + 4)) (fun i => Iₚ 20 (Int.toNat (Iₚ (t + 10) (Int.toNat (25 * r) + 3) + i)))) = (I (t + 10) (Int.toNat (25 * r) + 4), so_cut (I (t + 10) (Int.toNat (25 * r) + 4)) (fun i => I 20 (Int.toNat (I (t + 10) (Int.toNat (25 * r) + 3) + i))))
    rw [e 3 (by decide), e 4 (by decide)]
    exact congrArg (Prod.mk _) (so_cut_eq (fun k u v => l.2 _ (by omega)))
  · rw [e 3 (by decide), e 4 (by decide)]
    exact ⟨h3, Int.le_trans h4 l.1⟩
end KC
section KR
variable {I Iₚ : gr_I} {t r c c' n n' x : Int} {f f' M M' Λ Λ' : Nat → Int}
theorem so_okx_kp (h : so_okx c n x) (hc : c ≤ c') (hn : n ≤ n') : so_okx c' n' x := by
  rcases h with g | g | g
  · exact Or.inl g
  · exact Or.inr (Or.inl ⟨g.1, by omega⟩)
  · exact Or.inr (Or.inr ⟨g.1, by omega⟩)
theorem so_sd_kp (h : so_oks c n f) (lm : ∀ k : Int, 0 ≤ k → k < c → M' (Int.toNat (16 * t + k)) = M (Int.toNat (16 * t + k))) (l : ∀ j : Nat, (j : Int) < n → Λ' j = Λ j) (e : ∀ k, k < 3 → f' k = f k) : so_sd M' Λ' t f' = so_sd M Λ t f := by
  obtain ⟨m, h3, h1, h2⟩ := h
  have e1 := so_oks_cn h3 h1 h2
  have e2 : so_cn f' = m := so_oks_cn h3 (fun k hk => by rw [e k (by omega)]; exact h1 k hk) (fun k u v => (e k v).trans (h2 k u v))
  unfold so_sd
  rw [e1, e2]
  refine congrArg (Prod.mk _) (funext fun k => ?_)
  unfold so_ct
  by_cases g : k < m
  · rw [if_pos g, if_pos g]
    show so_rx M' Λ' t (f' k) = so_rx M Λ t (f k)
    rw [e k (by omega)]
    exact so_rx_kp (h1 k g) lm l
  · rw [if_neg g, if_neg g]
theorem so_oks_kp (h : so_oks c n f) (hc : c ≤ c') (hn : n ≤ n') (e : ∀ k, k < 3 → f' k = f k) : so_oks c' n' f' := by
  obtain ⟨m, h3, h1, h2⟩ := h
  exact ⟨m, h3, fun k hk => by rw [e k (by omega)]; exact so_okx_kp (h1 k hk) hc hn, fun k u v => (e k v).trans (h2 k u v)⟩
/-- a RULE of the reference stays as it is -/
theorem so_rr_kp (h : so_okr I t r) (l : gr_LKs I Iₚ) (c15 : I 15 (Int.toNat t) ≤ Iₚ 15 (Int.toNat t)) (mk : ∀ k : Int, 0 ≤ k → k < I 15 (Int.toNat t) → Iₚ 26 (Int.toNat (16 * t + k)) = I 26 (Int.toNat (16 * t + k))) (e27 : Iₚ 27 (Int.toNat r) = I 27 (Int.toNat r)) (e28 : Iₚ 28 (Int.toNat r) = I 28 (Int.toNat r)) (e29 : ∀ k : Nat, k < 3 → Iₚ 29 (Int.toNat (3 * r + (k : Int))) = I 29 (Int.toNat (3 * r + (k : Int)))) (e30 : ∀ k : Nat, k < 3 → Iₚ 30 (Int.toNat (3 * r + (k : Int))) = I 30 (Int.toNat (3 * r + (k : Int)))) : so_rr Iₚ t r = so_rr I t r ∧ so_okr Iₚ t r := by
  obtain ⟨h1, ⟨h2, h5⟩, h3, h4⟩ := h
  have x1 : so_rx (Iₚ 26) (Iₚ 51) t (Iₚ 27 (Int.toNat r)) = so_rx (I 26) (I 51) t (I 27 (Int.toNat r)) := by
    rw [e27]
    exact so_rx_kp h1 mk l.2
  have x2 : (so_rx (Iₚ 26) (Iₚ 51) t (Iₚ 28 (Int.toNat r))).2 = (so_rx (I 26) (I 51) t (I 28 (Int.toNat r))).2 := by
    rw [e28]
    exact congrArg Prod.snd (so_rx_kp h2 mk l.2)
  refine ⟨Prod.ext x1 (Prod.ext x2 (Prod.ext (so_sd_kp h3 mk l.2 e29) (so_sd_kp h4 mk l.2 e30))), ?_, ⟨?_, ?_⟩, so_oks_kp h3 c15 l.1 e29, so_oks_kp h4 c15 l.1 e30⟩
  · rw [e27]
    exact so_okx_kp h1 c15 l.1
  · rw [e28]
    exact so_okx_kp h2 c15 l.1
  · rw [e28]
    exact h5
end KR
/-- the cells of a TONGUE that hold its CLASSES and RULES stay; a CLASS came; a RULE came -/
def gs_cS (t : Nat) (I Iₚ : gr_I) : Prop := Iₚ (t + 7) 1 = I (t + 7) 1 ∧ (∀ k, Iₚ (t + 9) k = I (t + 9) k) ∧ Iₚ t 6 = I t 6 ∧ ∀ k, Iₚ (t + 10) k = I (t + 10) k
def gs_c84 (β : Int → Int) (η p : Int) (I : gr_I) (t : Nat) (Iₚ : gr_I) : Prop := Iₚ (t + 7) 1 = I (t + 7) 1 + 1 ∧ gs_Cml β η I t (gs_X β η p) Iₚ ∧ Iₚ t 6 = I t 6 ∧ ∀ k, Iₚ (t + 10) k = I (t + 10) k
def gs_c85 (β : Int → Int) (η p : Int) (Ir : gr_I) (Jr : gr_J) (I : gr_I) (t : Nat) (Iₚ : gr_I) : Prop := Iₚ (t + 7) 1 = I (t + 7) 1 ∧ (∀ k, Iₚ (t + 9) k = I (t + 9) k) ∧ Iₚ t 6 = I t 6 + 1 ∧ gs_Csn β η Ir Jr I t (gs_X β η p) Iₚ (I t 6)
/-- what a statement does to them -/
def gs_SC (β : Int → Int) (η p : Int) (Ir : gr_I) (Jr : gr_J) (I : gr_I) (A : gc_A) (z : Int) (Iₚ : gr_I) (Aₚ : gc_A) : Prop := gc_PKs I Iₚ ∧ ∀ i t : Nat, (i : Int) < Iₚ 8 1 → Aₚ 10 i = some t → (I 8 1 ≤ (i : Int) ∧ Iₚ (t + 7) 1 = 0 ∧ Iₚ t 6 = 0) ∨ ((i : Int) < I 8 1 ∧ A 10 i = some t ∧ (gs_cS t I Iₚ ∨ (z = 1 ∧ (i : Int) = I 1 5 ∧ ((gs_rn β η p = gs_W 84 ∧ gs_c84 β η p I t Iₚ) ∨ (gs_rn β η p = gs_W 85 ∧ gs_c85 β η p Ir Jr I t Iₚ)))))
/-- alike: masks, RULES -/
def gs_RSt (i : Int) (t : Nat) (Ir I : gr_I) : Prop := (∀ k : Nat, (k : Int) < I (t + 7) 1 → I (t + 9) k = Ir 26 (Int.toNat (16 * i + (k : Int)))) ∧ ∀ r : Int, 0 ≤ r → r < I t 6 → so_rc I t r = so_rr Ir i (24 * i + r) ∧ so_okrc I t r ∧ so_okr Ir i (24 * i + r) ∧ so_lh (so_rr Ir i (24 * i + r))
def gs_RS (I : gr_I) (A : gc_A) (Ir : gr_I) : Prop := ∀ i t : Nat, (i : Int) < I 8 1 → A 10 i = some t → gs_RSt (i : Int) t Ir I
section RS
variable {β : Int → Int} {η p i : Int} {t : Nat} {I Iₚ I0 Ir Irₚ Ir0 : gr_I} {J Jₚ Jr Jrₚ : gr_J} {A Aₚ A0 : gc_A}
/-- both sides keep what they have of a TONGUE -/
def gs_kC (t : Nat) (I Iₚ : gr_I) : Prop := (I (t + 7) 1 ≤ Iₚ (t + 7) 1 ∧ ∀ k : Nat, (k : Int) < I (t + 7) 1 → Iₚ (t + 9) k = I (t + 9) k) ∧ ∀ k : Nat, (k : Int) < 25 * I t 6 → Iₚ (t + 10) k = I (t + 10) k
def gs_kR (i : Int) (Ir Irₚ : gr_I) : Prop := (Ir 15 (Int.toNat i) ≤ Irₚ 15 (Int.toNat i) ∧ ∀ k : Int, 0 ≤ k → k < Ir 15 (Int.toNat i) → Irₚ 26 (Int.toNat (16 * i + k)) = Ir 26 (Int.toNat (16 * i + k))) ∧ ∀ r : Int, 0 ≤ r → r < Ir 16 (Int.toNat i) → (Irₚ 27 (Int.toNat (24 * i + r)) = Ir 27 (Int.toNat (24 * i + r)) ∧ Irₚ 28 (Int.toNat (24 * i + r)) = Ir 28 (Int.toNat (24 * i + r))) ∧ ∀ k : Nat, k < 3 → Irₚ 29 (Int.toNat (3 * (24 * i + r) + (k : Int))) = Ir 29 (Int.toNat (3 * (24 * i + r) + (k : Int))) ∧ Irₚ 30 (Int.toNat (3 * (24 * i + r) + (k : Int))) = Ir 30 (Int.toNat (3 * (24 * i + r) + (k : Int)))
theorem gs_rules_kp (h : gs_RSt i t Ir I) (es : I t 6 = Ir 16 (Int.toNat i)) (ec : I (t + 7) 1 = Ir 15 (Int.toNat i)) (lc : gc_PKs I Iₚ) (kc : gs_kC t I Iₚ) (lr : gr_LKs Ir Irₚ) (kr : gs_kR i Ir Irₚ) : (∀ k : Nat, (k : Int) < I (t + 7) 1 → Iₚ (t + 9) k = Irₚ 26 (Int.toNat (16 * i + (k : Int)))) ∧ ∀ r : Int, 0 ≤ r → r < I t 6 → so_rc Iₚ t r = so_rr Irₚ i (24 * i + r) ∧ so_okrc Iₚ t r ∧ so_okr Irₚ i (24 * i + r) ∧ so_lh (so_rr Irₚ i (24 * i + r)) := by
  refine ⟨fun k hk => ?_, fun r h0 h1 => ?_⟩
  · rw [kc.1.2 k hk, kr.1.2 (k : Int) (by omega) (by omega)]
    exact h.1 k hk
  · obtain ⟨g1, g2, g3, g4⟩ := h.2 r h0 h1
    obtain ⟨⟨x27, x28⟩, x29⟩ := kr.2 r h0 (by omega)
    have a := so_rc_kp g2 lc kc.1.1 kc.1.2 (fun k hk => kc.2 _ (by omega))
    have b := so_rr_kp g3 lr kr.1.1 kr.1.2 x27 x28 (fun k hk => (x29 k hk).1) (fun k hk => (x29 k hk).2)
    exact ⟨a.1.trans (g1.trans b.1.symm), a.2, b.2, by rw [b.1]; exact g4⟩
theorem gs_kC_s (h : gs_cS t I Iₚ) : gs_kC t I Iₚ := ⟨⟨by rw [h.1]; exact Int.le_refl _, fun k _ => h.2.1 k⟩, fun k _ => h.2.2.2 k⟩
theorem gs_kC_84 (h : gs_c84 β η p I t Iₚ) : gs_kC t I Iₚ := ⟨⟨by rw [h.1]; omega, fun k hk => h.2.1.2 k (by omega)⟩, fun k _ => h.2.2.2 k⟩
theorem gs_kC_85 (h : gs_c85 β η p Ir Jr I t Iₚ) : gs_kC t I Iₚ := ⟨⟨by rw [h.1]; exact Int.le_refl _, fun k _ => h.2.1 k⟩, fun k hk => h.2.2.2.2 k (by omega)⟩
theorem gs_kR_ts {m : List Nat} (ts : gs_TsX m Ir Jr Irₚ Jrₚ) (hm : ([15, 26, 27, 28, 29, 30].all (fun a => !(m.elem a))) = true) : gs_kR i Ir Irₚ := by
  simp only [List.all_cons, List.all_nil, Bool.and_true, Bool.and_eq_true, Bool.not_eq_true'] at hm
  obtain ⟨m1, m2, m3, m4, m5, m6⟩ := hm
  exact ⟨⟨by rw [ts.2.1 15 rfl m1]; exact Int.le_refl _, fun k _ _ => ts.2.1 26 rfl m2 _⟩, fun r _ _ => ⟨⟨ts.2.1 27 rfl m3 _, ts.2.1 28 rfl m4 _⟩, fun k _ => ⟨ts.2.1 29 rfl m5 _, ts.2.1 30 rfl m6 _⟩⟩⟩
/-- how large the reference's tables are -/
def gs_Rb (Ir : gr_I) : Prop := (∀ j : Nat, j < 8 → (0 ≤ Ir 15 j ∧ Ir 15 j ≤ 16) ∧ (0 ≤ Ir 16 j ∧ Ir 16 j ≤ 24)) ∧ Ir 0 6 < 8
/-- the reference keeps what it has, through every good statement -/
theorem gs_kR_st (u : gs_STU β η p Ir Jr Irₚ Jrₚ) (hi : 0 ≤ i ∧ i < 8) (b : gs_Rb Ir) (b' : gs_Rb Irₚ) (hc : gs_K6 (gs_rn β η p) → 0 ≤ Ir 0 6) : gs_kR i Ir Irₚ := by
  obtain ⟨k, ek, uk⟩ := u
  have r := gs_UK_r uk
  have hk : k = 80 ∨ k = 81 ∨ k = 82 ∨ k = 83 ∨ k = 84 ∨ k = 85 ∨ k = 86 ∨ k = 87 ∨ k = 88 ∨ k = 89 ∨ k = 90 ∨ k = 91 := by omega
  rcases hk with e | e | e | e | e | e | e | e | e | e | e | e <;> subst e
  · exact gs_kR_ts uk.2 rfl
  · exact gs_kR_ts uk.2 rfl
  · exact gs_kR_ts uk.2 rfl
  · exact gs_kR_ts uk.2 rfl
  · obtain ⟨⟨a, d⟩, ts⟩ := uk
    have c0 := hc (Or.inr (Or.inl ek))
    have c8 := b.2
    have q1 := a.1
    have q2 := (b'.1 (Int.toNat (Ir 0 6)) (by omega)).1
    refine ⟨⟨?_, fun k k0 k1 => d.2 _ ?_⟩, fun r _ _ => ⟨⟨ts.2.1 27 rfl rfl _, ts.2.1 28 rfl rfl _⟩, fun k _ => ⟨ts.2.1 29 rfl rfl _, ts.2.1 30 rfl rfl _⟩⟩⟩
    · by_cases c : Int.toNat i = Int.toNat (Ir 0 6)
      · rw [c]
        omega
      · rw [a.2.1 _ c]
        exact Int.le_refl _
    · have q3 := (b.1 (Int.toNat i) (by omega)).1
      have q4 := (b.1 (Int.toNat (Ir 0 6)) (by omega)).1
      by_cases c : i = Ir 0 6
      · subst c
        omega
      · omega
  · obtain ⟨⟨a, d⟩, ts⟩ := uk
    have c0 := hc (Or.inr (Or.inr (Or.inl ek)))
    have c8 := b.2
    have q1 := a.1
    have q2 := (b'.1 (Int.toNat (Ir 0 6)) (by omega)).2
    have q4 := (b.1 (Int.toNat (Ir 0 6)) (by omega)).2
    refine ⟨⟨by rw [ts.2.1 15 rfl rfl]; exact Int.le_refl _, fun k _ _ => ts.2.1 26 rfl rfl _⟩, fun r r0 r1 => ?_⟩
    have q3 := (b.1 (Int.toNat i) (by omega)).2
    have ne : ¬ 24 * i + r = 24 * Ir 0 6 + Ir 16 (Int.toNat (Ir 0 6)) := by
      by_cases c : i = Ir 0 6
      · subst c
        omega
      · omega
    refine ⟨d.2.1 _ (by omega), fun k hk => d.2.2 _ (by omega)⟩
  · exact gs_kR_ts uk.2 rfl
  · exact gs_kR_ts uk.2 rfl
  · exact gs_kR_ts uk.2 rfl
  · exact gs_kR_ts uk.2 rfl
  · exact gs_kR_ts uk.2 rfl
  · exact gs_kR_ts uk.2 rfl
/-- a good statement: alike again -/
theorem gs_RS_st (hR : gs_R I J A Ir Jr) (hR' : gs_R Iₚ Jₚ Aₚ Irₚ Jrₚ) (h : gs_RS I A Ir) (sc : gs_SC β η p Ir Jr I A 1 Iₚ Aₚ) (u : gs_STU β η p Ir Jr Irₚ Jrₚ) (lk : gr_LKs Ir Irₚ) (b : gs_Rb Ir) (b' : gs_Rb Irₚ) (hc : gs_K6 (gs_rn β η p) → 0 ≤ Ir 0 6) (h8 : Iₚ 8 1 ≤ 8) : gs_RS Iₚ Aₚ Irₚ := by
  obtain ⟨_, _, _, _, _, _, hc5, hT, _⟩ := hR
  obtain ⟨_, _, _, _, _, _, _, hT', _⟩ := hR'
  intro i t hi hA
  rcases sc.2 i t hi hA with ⟨_, z7, z6⟩ | ⟨hi0, hA0, g⟩
  · exact ⟨fun k hk => absurd hk (by omega), fun r h0 h1 => absurd h1 (by omega)⟩
  · obtain ⟨_, _, q7, qs, _⟩ := hT i t hi0 hA0
    obtain ⟨_, _, q7', qs', _⟩ := hT' i t hi hA
    have kr : gs_kR (i : Int) Ir Irₚ := gs_kR_st u ⟨by omega, by omega⟩ b b' hc
    have hh := h i t hi0 hA0
    rcases g with g | ⟨_, gi, ⟨gw, g⟩ | ⟨gw, g⟩⟩
    · have k := gs_rules_kp hh qs q7.1 sc.1 (gs_kC_s g) lk kr
      refine ⟨fun k9 hk => k.1 k9 (by rw [← g.1]; exact hk), fun r h0 h1 => k.2 r h0 (by rw [← g.2.2.1]; exact h1)⟩
    · have k := gs_rules_kp hh qs q7.1 sc.1 (gs_kC_84 g) lk kr
      refine ⟨fun k9 hk => ?_, fun r h0 h1 => k.2 r h0 (by rw [← g.2.2.1]; exact h1)⟩
      by_cases c : (k9 : Int) < I (t + 7) 1
      · exact k.1 k9 c
      · obtain ⟨⟨_, um⟩, _⟩ := gs_STU_k u 84 (by decide) gw
        have g1 := g.1
        have e6 : Ir 0 6 = (i : Int) := by omega
        have x := um.1
        rw [e6] at x
        have q := q7.1
        rw [show k9 = Int.toNat (I (t + 7) 1) from by omega, g.2.1.1, show ((Int.toNat (I (t + 7) 1) : Nat) : Int) = Ir 15 (Int.toNat (i : Int)) from by omega]
        exact x.symm
    · have k := gs_rules_kp hh qs q7.1 sc.1 (gs_kC_85 g) lk kr
      refine ⟨fun k9 hk => k.1 k9 (by rw [← g.1]; exact hk), fun r h0 h1 => ?_⟩
      by_cases c : r < I t 6
      · exact k.2 r h0 c
      · obtain ⟨⟨_, us⟩, _⟩ := gs_STU_k u 85 (by decide) gw
        have g1 := g.2.2.1
        have e6 : Ir 0 6 = (i : Int) := by omega
        have x := us.1
        rw [e6] at x
        rw [show r = I t 6 from by omega]
        have e : 24 * (i : Int) + Ir 16 (Int.toNat (i : Int)) = 24 * (i : Int) + I t 6 := by rw [qs]
        rw [e] at x
        exact ⟨g.2.2.2.1.1.trans x.1.symm, g.2.2.2.1.2, x.2.1, by rw [x.1]; exact x.2.2⟩
/-- since a module's start -/
def gs_CK (I0 : gr_I) (A0 : gc_A) (I : gr_I) (A : gc_A) : Prop := gc_PKs I0 I ∧ I0 8 1 ≤ I 8 1 ∧ ∀ i t : Nat, (i : Int) < I0 8 1 → A 10 i = some t → A0 10 i = some t ∧ I0 t 6 ≤ I t 6 ∧ gs_kC t I0 I
def gs_RK (Ir0 Ir : gr_I) : Prop := gr_LKs Ir0 Ir ∧ ∀ i : Int, 0 ≤ i → i < 8 → Ir0 16 (Int.toNat i) ≤ Ir 16 (Int.toNat i) ∧ gs_kR i Ir0 Ir
theorem gs_kC_tr (b : I0 t 6 ≤ I t 6) (h : gs_kC t I0 I) (g : gs_kC t I Iₚ) : gs_kC t I0 Iₚ := ⟨⟨Int.le_trans h.1.1 g.1.1, fun k hk => (g.1.2 k (by have := h.1.1; omega)).trans (h.1.2 k hk)⟩, fun k hk => (g.2 k (by omega)).trans (h.2 k hk)⟩
theorem gs_kR_tr (b : Ir0 16 (Int.toNat i) ≤ Ir 16 (Int.toNat i)) (h : gs_kR i Ir0 Ir) (g : gs_kR i Ir Irₚ) : gs_kR i Ir0 Irₚ := ⟨⟨Int.le_trans h.1.1 g.1.1, fun k k0 k1 => (g.1.2 k k0 (by have := h.1.1; omega)).trans (h.1.2 k k0 k1)⟩, fun r r0 r1 => by
  obtain ⟨⟨a1, a2⟩, a3⟩ := h.2 r r0 r1
  obtain ⟨⟨b1, b2⟩, b3⟩ := g.2 r r0 (by omega)
  exact ⟨⟨b1.trans a1, b2.trans a2⟩, fun k hk => ⟨(b3 k hk).1.trans (a3 k hk).1, (b3 k hk).2.trans (a3 k hk).2⟩⟩⟩
theorem gs_RK_rf : gs_RK Ir Ir := ⟨gr_LKs_rf, fun i _ _ => ⟨Int.le_refl _, ⟨⟨Int.le_refl _, fun _ _ _ => rfl⟩, fun _ _ _ => ⟨⟨rfl, rfl⟩, fun _ _ => ⟨rfl, rfl⟩⟩⟩⟩⟩
theorem gs_CK_st {z : Int} (h : gs_CK I0 A0 I A) (sc : gs_SC β η p Ir Jr I A z Iₚ Aₚ) (h8 : I 8 1 ≤ Iₚ 8 1) : gs_CK I0 A0 Iₚ Aₚ := by
  refine ⟨gc_PKs_tr h.1 sc.1, Int.le_trans h.2.1 h8, fun i t hi hA => ?_⟩
  have h1 := h.2.1
  rcases sc.2 i t (by omega) hA with ⟨g, _⟩ | ⟨hi0, hA0, g⟩
  · exact absurd g (by omega)
  · obtain ⟨a, b, c⟩ := h.2.2 i t hi hA0
    rcases g with g | ⟨_, _, ⟨_, g⟩ | ⟨_, g⟩⟩
    · exact ⟨a, by have := g.2.2.1; omega, gs_kC_tr b c (gs_kC_s g)⟩
    · exact ⟨a, by have := g.2.2.1; omega, gs_kC_tr b c (gs_kC_84 g)⟩
    · exact ⟨a, by have := g.2.2.1; omega, gs_kC_tr b c (gs_kC_85 g)⟩
theorem gs_RK_ts {m : List Nat} (h : gs_RK Ir0 Ir) (ts : gs_TsX m Ir Jr Irₚ Jrₚ) (hm : ([15, 16, 26, 27, 28, 29, 30].all (fun a => !(m.elem a))) = true) (l : gr_LKs Ir Irₚ) : gs_RK Ir0 Irₚ := by
  have hm2 := hm
  simp only [List.all_cons, List.all_nil, Bool.and_true, Bool.and_eq_true, Bool.not_eq_true'] at hm
  obtain ⟨m1, m0, m2, m3, m4, m5, m6⟩ := hm
  refine ⟨gr_LKs_tr h.1 l, fun i hi hi8 => ?_⟩
  obtain ⟨a, b⟩ := h.2 i hi hi8
  refine ⟨by rw [ts.2.1 16 rfl m0]; exact a, gs_kR_tr a b ?_⟩
  exact ⟨⟨by rw [ts.2.1 15 rfl m1]; exact Int.le_refl _, fun k _ _ => ts.2.1 26 rfl m2 _⟩, fun r _ _ => ⟨⟨ts.2.1 27 rfl m3 _, ts.2.1 28 rfl m4 _⟩, fun k _ => ⟨ts.2.1 29 rfl m5 _, ts.2.1 30 rfl m6 _⟩⟩⟩
theorem gs_RK_st (h : gs_RK Ir0 Ir) (u : gs_STU β η p Ir Jr Irₚ Jrₚ) (lk : gr_LKs Ir Irₚ) (b : gs_Rb Ir) (b' : gs_Rb Irₚ) (hc : gs_K6 (gs_rn β η p) → 0 ≤ Ir 0 6) : gs_RK Ir0 Irₚ := by
  refine ⟨gr_LKs_tr h.1 lk, fun i hi hi8 => ?_⟩
  obtain ⟨a, g⟩ := h.2 i hi hi8
  refine ⟨Int.le_trans a ?_, gs_kR_tr a g (gs_kR_st u ⟨hi, hi8⟩ b b' hc)⟩
  obtain ⟨k, ek, uk⟩ := u
  have r := gs_UK_r uk
  have hk : k = 80 ∨ k = 81 ∨ k = 82 ∨ k = 83 ∨ k = 84 ∨ k = 85 ∨ k = 86 ∨ k = 87 ∨ k = 88 ∨ k = 89 ∨ k = 90 ∨ k = 91 := by omega
  rcases hk with e | e | e | e | e | e | e | e | e | e | e | e <;> subst e <;> first | (rw [uk.2.2.1 16 rfl rfl]; exact Int.le_refl _) | skip
  obtain ⟨⟨⟨x, y⟩, _⟩, _⟩ := uk
  by_cases c : Int.toNat i = Int.toNat (Ir 0 6)
  · rw [c]
    omega
  · rw [y _ c]
    exact Int.le_refl _
/-- a wrong module: both sides go back to what they had at its start -/
theorem gs_RS_bk (h : gs_RS I0 A0 Ir0) (hR : gs_R I0 J A0 Ir0 Jr) (ck : gs_CK I0 A0 I A) (rk : gs_RK Ir0 Ir) (h8 : Iₚ 8 1 = I0 8 1) (h17 : Iₚ 1 17 = I0 1 17) (h20 : ∀ k, Iₚ 20 k = I 20 k) (ht : ∀ i t : Nat, (i : Int) < I0 8 1 → A 10 i = some t → Iₚ (t + 7) 1 = I0 (t + 7) 1 ∧ Iₚ t 6 = I0 t 6 ∧ (∀ k, Iₚ (t + 9) k = I (t + 9) k) ∧ ∀ k, Iₚ (t + 10) k = I (t + 10) k) (r59 : Irₚ 0 59 = Ir0 0 59) (r51 : ∀ j, Irₚ 51 j = Ir 51 j) (r15 : ∀ j : Nat, j < 8 → Irₚ 15 j = Ir0 15 j ∧ Irₚ 16 j = Ir0 16 j) (rr : ∀ j, Irₚ 26 j = Ir 26 j ∧ Irₚ 27 j = Ir 27 j ∧ Irₚ 28 j = Ir 28 j ∧ Irₚ 29 j = Ir 29 j ∧ Irₚ 30 j = Ir 30 j) (b8 : I0 8 1 ≤ 8) : gs_RS Iₚ A Irₚ := by
  obtain ⟨_, _, _, _, _, _, _, hT, _⟩ := hR
  intro i t hi hA
  obtain ⟨hA0, c6, kc⟩ := ck.2.2 i t (by omega) hA
  obtain ⟨t7, t6, t9, t10⟩ := ht i t (by omega) hA
  obtain ⟨_, _, q7, qs, _⟩ := hT i t (by omega) hA0
  obtain ⟨_, kr⟩ := rk.2 (i : Int) (by omega) (by omega)
  have e15 := r15 (Int.toNat (i : Int)) (by omega)
  have lc : gc_PKs I0 Iₚ := ⟨by omega, fun j hj => (h20 j).trans (ck.1.2 j hj)⟩
  have lr : gr_LKs Ir0 Irₚ := ⟨by omega, fun j hj => (r51 j).trans (rk.1.2 j hj)⟩
  have kc' : gs_kC t I0 Iₚ := ⟨⟨by omega, fun k hk => (t9 k).trans (kc.1.2 k hk)⟩, fun k hk => (t10 k).trans (kc.2 k hk)⟩
  have kr' : gs_kR (i : Int) Ir0 Irₚ := ⟨⟨by omega, fun k k0 k1 => (rr _).1.trans (kr.1.2 k k0 k1)⟩, fun r r0 r1 => by
    obtain ⟨⟨a1, a2⟩, a3⟩ := kr.2 r r0 r1
    exact ⟨⟨(rr _).2.1.trans a1, (rr _).2.2.1.trans a2⟩, fun k hk => ⟨(rr _).2.2.2.1.trans (a3 k hk).1, (rr _).2.2.2.2.trans (a3 k hk).2⟩⟩⟩
  have k := gs_rules_kp (h i t (by omega) hA0) qs q7.1 lc kc' lr kr'
  exact ⟨fun k9 hk => k.1 k9 (by omega), fun r h0 h1 => k.2 r h0 (by omega)⟩
/-- nothing of it is touched -/
theorem gs_RS_fr (h : gs_RS I A Ir) (hR : gs_R I J A Ir Jr) (h8 : Iₚ 8 1 = I 8 1) (l : gc_PKs I Iₚ) (ht : ∀ i t : Nat, (i : Int) < I 8 1 → Aₚ 10 i = some t → A 10 i = some t ∧ gs_cS t I Iₚ) (lr : gr_LKs Ir Irₚ) (r15 : ∀ j, Irₚ 15 j = Ir 15 j ∧ Irₚ 16 j = Ir 16 j) (rr : ∀ j, Irₚ 26 j = Ir 26 j ∧ Irₚ 27 j = Ir 27 j ∧ Irₚ 28 j = Ir 28 j ∧ Irₚ 29 j = Ir 29 j ∧ Irₚ 30 j = Ir 30 j) : gs_RS Iₚ Aₚ Irₚ := by
  obtain ⟨_, _, _, _, _, _, _, hT, _⟩ := hR
  intro i t hi hA
  obtain ⟨hA0, c⟩ := ht i t (by omega) hA
  obtain ⟨_, _, q7, qs, _⟩ := hT i t (by omega) hA0
  have kr' : gs_kR (i : Int) Ir Irₚ := ⟨⟨by rw [(r15 _).1]; exact Int.le_refl _, fun k k0 k1 => (rr _).1⟩, fun r r0 r1 => ⟨⟨(rr _).2.1, (rr _).2.2.1⟩, fun k hk => ⟨(rr _).2.2.2.1, (rr _).2.2.2.2⟩⟩⟩
  have k := gs_rules_kp (h i t (by omega) hA0) qs q7.1 l (gs_kC_s c) lr kr'
  have c1 := c.1
  have c3 := c.2.2.1
  exact ⟨fun k9 hk => k.1 k9 (by omega), fun r h0 h1 => k.2 r h0 (by omega)⟩
end RS
