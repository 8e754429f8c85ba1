section CL9
variable {i t : Nat} {I Ir : gr_I} {J Jr : gr_J} {A : gc_A} {U : Nat → so_ru} {d : Nat} {y : fo_c} {g : Nat → Int} {z : Int}
theorem fo_jn_nn {S : Int → fo_c} {f : Int → Int} (hS : ∀ b x, S b = some x → 0 ≤ x.1) : ∀ {m : Nat} {x : Int × (Int → Int)}, fo_jn S f m = some x → 0 ≤ x.1
  | 0, x, h => by
    have e : x = (0, fun _ => 0) := (Option.some.inj h).symm
    rw [e]
    exact Int.le_refl 0
  | m + 1, x, h => by
    have h1 : fo_ap (fo_jn S f m) (fo_ch S (f (m : Int))) = some x := h
    cases e1 : fo_jn S f m with
    | none =>
      rw [e1] at h1
      exact (fo_nn h1).elim
    | some u =>
      cases e2 : fo_ch S (f (m : Int)) with
      | none =>
        rw [e1, e2] at h1
        exact (fo_nn h1).elim
      | some v =>
        rw [e1, e2] at h1
        have h2 : (if 24 < u.1 + v.1 then none else some (u.1 + v.1, so_app u.2 u.1 v.1 v.2)) = some x := h1
        by_cases c : 24 < u.1 + v.1
        · rw [if_pos c] at h2
          exact (fo_nn h2).elim
        · rw [if_neg c] at h2
          have e3 : x.1 = u.1 + v.1 := by rw [← Option.some.inj h2]
          have a := fo_jn_nn hS e1
          have b : 0 ≤ v.1 := by
            unfold fo_ch at e2
            by_cases k : f (m : Int) ≤ 3
            · rw [if_pos k] at e2
              exact hS _ _ e2
            · rw [if_neg k] at e2
              have e4 : v = (1, fun _ => f (m : Int)) := (Option.some.inj e2).symm
              rw [e4]
              exact (by decide : (0 : Int) ≤ 1)
          omega
theorem fo_ok_b {n p : Int} {Λ : Nat → Int} (h : fo_okb n Λ p) : fo_ok Λ p := h.elim Or.inl (fun o => Or.inr ⟨o.1.1, by rw [so_nv o.1]; omega, fun i h0 h1 => by
  rw [so_nv o.1] at h1
  rw [so_ov o.1]
  exact o.2.2 i h0 h1⟩)
set_option maxHeartbeats 8000000 in
theorem fo_jr_cg {S S' : Int → fo_c} {Λ f : Nat → Int} : ∀ {k : Nat}, (∀ b : Int, b ≤ 3 → 1 ≤ b → S b = S' b) → (∀ j, j < k → fo_ok Λ (f j)) → fo_jr S Λ f k = fo_jr S' Λ f k
  | 0, _, _ => rfl
  | k + 1, hS, ok => by
    show fo_ap (fo_jr S Λ f k) (fo_pc S Λ (f k)) = fo_ap (fo_jr S' Λ f k) (fo_pc S' Λ (f k))
    have e : fo_pc S Λ (f k) = fo_pc S' Λ (f k) := by
      unfold fo_pc
      rcases ok k (by exact gz_m 0 (by omega)) with o | o
      · rw [if_pos o.2, if_pos o.2]
        exact hS _ (by exact gz_m 1 (by omega)) (by exact gz_m 2 (by omega))
      · have ng : ¬ f k < 0 := by exact gz_m 3 (by omega)
        rw [if_neg ng, if_neg ng]
    rw [fo_jr_cg (k := k) hS (fun j hj => ok j (by exact gz_m 4 (by omega))), e]
/-- WORDS: the class's bytes and the reference's parts give one word -/
theorem gs_wcr (hR : gs_R I J A Ir Jr) (yS : gs_RV I A Ir) (b8 : I 8 1 ≤ 8) (hi : (i : Int) < I 8 1) (ht : A 10 i = some t) {w c : Int} (w0 : 0 ≤ w) (w1 : w < I t 11) (c0 : 0 ≤ c) (c1 : c < fo_cs I t w) : (fo_wc I t w c = fo_wr Ir (i : Int) w c ∧ ∀ x, fo_wc I t w c = some x → 0 ≤ x.1) ∧ gs_JO Ir (i : Int) w c := by
  have pw := gs_pw9 hR yS b8 hi ht w0 w1
  obtain ⟨_, _, _, _, _, _, _, hT, _⟩ := hR
  obtain ⟨_, _, _, _, qp, qw, _⟩ := hT i t hi ht
  have hh := yS.2.2 i t hi ht
  obtain ⟨⟨_, a1, _, _⟩, es, okf, okx, _, k1, k2⟩ := hh.2 w w0 w1
  obtain ⟨⟨⟨f0, f2⟩, b24⟩, _, oc⟩ := pw
  have o := yS.2.1.2 (i : Int) (gs_fw I t w 1) (by omega) (by omega) f0 (by rw [← qp.1.1]; exact f2)
  have e13 := (qp.2 (gs_fw I t w 1) f0 f2).1
  have cs : fo_cs I t w = Ir 31 (Int.toNat (24 * (i : Int) + gs_fw I t w 1)) := e13
  have ca := hh.1 (gs_fw I t w 1) f0 f2 (Int.toNat c) (by
    have c2 : c < I (t + 13) (Int.toNat (gs_fw I t w 1)) := c1
    omega)
  rw [show Int.toNat (72 * gs_fw I t w 1) + 3 * Int.toNat c = fo_Rc I t w c from by unfold fo_Rc; omega] at ca
  have e := ca.1
  have okr := o.2 c c0 (by rw [← cs]; exact c1)
  unfold gs_de9 at e
  rw [show 24 * (24 * (i : Int) + gs_fw I t w 1) + ((Int.toNat c : Nat) : Int) = 24 * (24 * (i : Int) + gs_fw I t w 1) + c from by omega] at e
  have eX : Int.toNat (24 * (24 * (i : Int) + gs_fw I t w 1) + c) = fo_Xc Ir (i : Int) w c := by
    unfold fo_Xc
    rw [a1]
  rw [eX] at e okr
  have sS : ∀ b : Int, b ≤ 3 → 1 ≤ b → fo_Scl I t w b = fo_Sr Ir (i : Int) w b := fun b b3 b1 => by
    unfold fo_Scl fo_Sr
    rw [es (Int.toNat (b - 1)) (by omega)]
    unfold gs_xw
    rw [show 3 * (64 * (i : Int) + w) + ((Int.toNat (b - 1) : Nat) : Int) = 3 * (64 * (i : Int) + w) - 1 + b from by omega]
  have nS : ∀ b x, fo_Scl I t w b = some x → 0 ≤ x.1 := fun b x h => by
    unfold fo_Scl fo_sc at h
    by_cases q : gs_fw I t w 4 ≤ ((Int.toNat (b - 1) : Nat) : Int)
    · rw [if_pos q] at h
      exact (fo_nn h).elim
    · rw [if_neg q] at h
      have e9 := (Option.some.inj h).symm
      rw [e9]
      exact (okf.2 (Int.toNat (b - 1)) (by omega)).1.2
  have jo : gs_JO Ir (i : Int) w c := ⟨okr, okx⟩
  refine ⟨⟨?_, fun x hx => ?_⟩, jo⟩
  · unfold fo_wc fo_wr
    have e2 : (if I (t + 14) (fo_Rc I t w c + 2) < 0 then none else some (I (t + 14) (fo_Rc I t w c + 2), so_cut (I (t + 14) (fo_Rc I t w c + 2)) (fun k => I 20 (Int.toNat (I (t + 14) (fo_Rc I t w c + 1) + k))))) = fo_rx (Ir 51) (Ir 35) (Ir 33 (fo_Xc Ir (i : Int) w c)) (Ir 34 (fo_Xc Ir (i : Int) w c)) := e
    unfold fo_rx at e2
    by_cases m : I (t + 14) (fo_Rc I t w c + 2) < 0
    · rw [if_pos m] at e2 ⊢
      by_cases m2 : Ir 34 (fo_Xc Ir (i : Int) w c) < 0
      · rw [if_pos m2]
      · rw [if_neg m2] at e2
        exact (fo_nn e2).elim
    · rw [if_neg m] at e2 ⊢
      by_cases m2 : Ir 34 (fo_Xc Ir (i : Int) w c) < 0
      · rw [if_pos m2] at e2
        exact (fo_ns e2).elim
      · rw [if_neg m2] at e2 ⊢
        have e3 := Option.some.inj e2
        have eN : I (t + 14) (fo_Rc I t w c + 2) = _ := congrArg Prod.fst e3
        have eF := congrArg Prod.snd e3
        have ok := (okr.resolve_left m2).2
        have okp : ∀ j, j < Int.toNat (Ir 34 (fo_Xc Ir (i : Int) w c)) → fo_ok (Ir 51) ((fun j : Nat => Ir 35 (Int.toNat (Ir 33 (fo_Xc Ir (i : Int) w c) + (j : Int)))) j) := fun j hj => fo_ok_b (ok (j : Int) (by omega) (by omega))
        rw [eN]
        refine (fo_jn_ex (S := fo_Scl I t w) okp (fun k k0 k1 => ?_)).trans (fo_jr_cg (fun b b3 b1 => sS b b3 b1) (fun j hj => okp j hj))
        have q := congrFun eF k
        rw [← q]
        exact (so_cut_i (n := I (t + 14) (fo_Rc I t w c + 2)) (r := fun k => I 20 (Int.toNat (I (t + 14) (fo_Rc I t w c + 1) + k))) k0 (by rw [eN]; exact k1)).symm
  · unfold fo_wc at hx
    by_cases m : I (t + 14) (fo_Rc I t w c + 2) < 0
    · rw [if_pos m] at hx
      exact (fo_nn hx).elim
    · rw [if_neg m] at hx
      exact fo_jn_nn nS hx
end CL9
/-! kept FORMS of the reference through a module (p9 to p13) -/
section KQ9
variable {i t : Nat} {I Iₚ Ir Irₚ : gr_I} {J Jₚ : gr_J} {Jr Jrₚ : gr_J} {A Aₚ : gc_A}
/-- one TONGUE on both sides -/
theorem gs_RL (hR : gs_R I J A Ir Jr) (yS : gs_RV I A Ir) (b8 : I 8 1 ≤ 8) (hi : (i : Int) < I 8 1) (ht : A 10 i = some t) : (I t 6 = Ir 16 (Int.toNat (i : Int)) ∧ I t 11 = Ir 18 (Int.toNat (i : Int))) ∧ (∀ r : Int, 0 ≤ r → r < I t 6 → so_rc I t r = so_rr Ir (i : Int) (24 * (i : Int) + r) ∧ so_okrc I t r ∧ so_okr Ir (i : Int) (24 * (i : Int) + r) ∧ so_lh (so_rr Ir (i : Int) (24 * (i : Int) + r))) ∧ ∀ w : Int, 0 ≤ w → w < I t 11 → fo_cs I t w = fo_cr Ir (i : Int) w ∧ ∀ c : Int, 0 ≤ c → c < fo_cs I t w → (fo_wc I t w c = fo_wr Ir (i : Int) w c ∧ ∀ x, fo_wc I t w c = some x → 0 ≤ x.1) ∧ gs_JO Ir (i : Int) w c := by
  obtain ⟨_, _, _, qs, qp, qw, _⟩ := hR.2.2.2.2.2.2.2.1 i t hi ht
  have wa := (yS.2.2 i t hi ht).2
  refine ⟨⟨qs, qw⟩, (yS.1 i t hi ht).2, fun w w0 w1 => ⟨?_, fun c c0 c1 => gs_wcr hR yS b8 hi ht w0 w1 c0 c1⟩⟩
  have p9 := (gs_pw9 hR yS b8 hi ht w0 w1).1.1
  have a9 := (wa w w0 w1).1.2.1
  unfold fo_cr
  rw [← a9]
  exact (qp.2 (gs_fw I t w 1) p9.1 p9.2).1
theorem gs_GRr (hR : gs_R I J A Ir Jr) (yS : gs_RV I A Ir) (b8 : I 8 1 ≤ 8) (ex : ∀ i : Nat, (i : Int) < I 8 1 → ∃ t, A 10 i = some t) {τ : Int} (t0 : 0 ≤ τ) (t1 : τ < I 8 1) : fo_GR Ir τ := by
  obtain ⟨t, ht⟩ := ex (Int.toNat τ) (by omega)
  obtain ⟨⟨q6, q11⟩, g, w⟩ := gs_RL hR yS b8 (i := Int.toNat τ) (by omega) ht
  rw [show ((Int.toNat τ : Nat) : Int) = τ from by omega] at q6 q11 g w
  refine ⟨fun k h0 h1 => ?_, fun w' c w0 w1 c0 c1 => ?_⟩
  · obtain ⟨_, _, x, y⟩ := g k h0 (by omega)
    exact ⟨x, y⟩
  · have w9 := w w' w0 (by omega)
    exact (w9.2 c c0 (by rw [w9.1]; exact c1)).2
theorem gs_KQm {β : Int → Int} {N z : Int} (hR : gs_R I J A Ir Jr) (yS : gs_RV I A Ir) (b8 : I 8 1 ≤ 8) (hR' : gs_R Iₚ Jₚ Aₚ Irₚ Jrₚ) (yS' : gs_RV Iₚ Aₚ Irₚ) (b8' : Iₚ 8 1 ≤ 8) (ex' : ∀ i : Nat, (i : Int) < Iₚ 8 1 → ∃ t, Aₚ 10 i = some t) (cv : gs_CV I A Iₚ Aₚ) (md : gs_MD β N z Ir Jr Irₚ Jrₚ) (mk : gr_MK z Ir Irₚ) (k : gr_KQ Ir) : gr_KQ Irₚ := by
  obtain ⟨k1, k2, k3⟩ := k
  obtain ⟨m1, ⟨m2, m3⟩, m4, m5⟩ := mk
  have e1' : Iₚ 8 1 = Irₚ 0 1 := hR'.2.2.2.1.1
  have e1 : I 8 1 = Ir 0 1 := hR.2.2.2.1.1
  refine ⟨fun τ t0 t1 => gs_GRr hR' yS' b8' ex' t0 (by omega), fun g0 g1 g2 => ?_, by omega⟩
  have mw : Irₚ 0 100 = Ir 0 100 ∧ z < 0 := by omega
  obtain ⟨n, q, I2, J2, hn, _, md⟩ := md
  rcases md with ⟨_, e, _⟩ | ⟨_, I3, J3, I4, J4, _, _, _, _, _, bk⟩
  · omega
  obtain ⟨⟨b1, _⟩, bt, _⟩ := bk
  obtain ⟨τ, hτ⟩ : ∃ τ : Int, τ = Irₚ 0 127 := ⟨_, rfl⟩
  have fk := k2 (by omega) (by omega) (by omega)
  rw [← m2, ← hτ] at fk
  rw [← hτ] at g0 g1 ⊢
  obtain ⟨t, ht'⟩ := ex' (Int.toNat τ) (by omega)
  have hi : ((Int.toNat τ : Nat) : Int) < I 8 1 := by omega
  obtain ⟨pk, _, ck⟩ := cv.1
  obtain ⟨ht, l6, kc⟩ := ck _ t hi ht'
  obtain ⟨_, l11, kd⟩ := cv.2.2 _ t hi ht'
  have rs := yS.1 _ t hi ht
  have rl := gs_RL hR yS b8 hi ht
  have rl' := gs_RL hR' yS' b8' (i := Int.toNat τ) (by omega) ht'
  rw [show ((Int.toNat τ : Nat) : Int) = τ from by omega] at rl rl'
  obtain ⟨⟨q6, q11⟩, rg, rw9⟩ := rl
  obtain ⟨⟨q6', q11'⟩, rg', rw9'⟩ := rl'
  obtain ⟨_, _, _, b16, _, b18, _⟩ := bt (Int.toNat τ) (by omega)
  have rc : ∀ r : Int, 0 ≤ r → r < I t 6 → so_rr Irₚ τ (24 * τ + r) = so_rr Ir τ (24 * τ + r) := fun r r0 r1 => (rg' r r0 (by omega)).1.symm.trans (((so_rc_kp (rs.2 r r0 r1).2.1 pk kc.1.1 kc.1.2 (fun k hk => kc.2 _ (by omega))).1).trans (rg r r0 r1).1)
  intro w c w0 w1 c0 c1
  have wv := gs_KVw hR yS b8 hi ht pk kd w0 (by omega)
  have x := rw9 w w0 (by omega)
  have x' := rw9' w w0 (by omega)
  have c2 : c < fo_cs I t w := by
    rw [← wv.1, x'.1]
    exact c1
  have f1 := fk w c w0 (by omega) c0 (by rw [← x.1]; exact c2)
  have ew : fo_wr Irₚ τ w c = fo_wr Ir τ w c := ((x'.2 c c0 (by rw [wv.1]; exact c2)).1.1).symm.trans ((wv.2 c c0 c2).trans (x.2 c c0 c2).1.1)
  unfold fo_Fr at f1 ⊢
  rw [ew, b16, m5, show Irₚ 78 = Ir 78 from funext m4]
  exact fo_out_U (fun r hr => rc (r : Int) (by omega) (by omega)) f1
end KQ9
