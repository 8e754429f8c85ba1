/-! what a call leaves of the FORMS that are kept (p9 to p13): as it was, or built -/
def gh_tb (I I1 : gr_I) (t : Nat) : Prop := (∀ j : Nat, I1 20 j = I 20 j) ∧ (∀ d j : Nat, 9 ≤ d → d ≤ 15 → I1 (t + d) j = I (t + d) j) ∧ I1 t 6 = I t 6 ∧ I1 t 11 = I t 11
def fo_K (I : gr_I) (t : Nat) : Prop := I (t + 17) 8 = I t 11 → I (t + 17) 9 = I t 6 → fo_FC I I t (t + 17)
def gh_BS (I : gr_I) (t : Nat) (Iₚ : gr_I) : Prop := Iₚ (t + 17) 8 = I (t + 17) 8 ∧ Iₚ (t + 17) 9 = I (t + 17) 9 ∧ (∀ k : Nat, Iₚ (t + 18) k = I (t + 18) k) ∧ (∀ k : Nat, Iₚ (t + 19) k = I (t + 19) k) ∧ (∀ k : Nat, Iₚ (t + 20) k = I (t + 20) k) ∧ (∀ k : Nat, Iₚ (t + 21) k = I (t + 21) k)
def gh_BD (I : gr_I) (t : Nat) (Iₚ : gr_I) : Prop := gh_BS I t Iₚ ∨ (so_lhs I t → fo_by I t → ¬ I (t + 17) 6 = I (t + 17) 7 → fo_K I t → Iₚ (t + 17) 9 = I t 6 ∧ fo_FC I Iₚ t (t + 17))
section BD9
variable {I I1 I2 Iₚ : gr_I} {t p : Nat}
theorem gh_tb_rf : gh_tb I I t := ⟨fun _ => rfl, fun _ _ _ _ => rfl, rfl, rfl⟩
theorem gh_tb_fw (h : gh_tb I I1 t) : gs_fw I1 t = gs_fw I t := funext fun w => funext fun k => h.2.1 15 _ (by decide) (by decide)
theorem gh_tb_cs (h : gh_tb I I1 t) : fo_cs I1 t = fo_cs I t := funext fun w => by
  unfold fo_cs
  rw [gh_tb_fw h]
  exact h.2.1 13 _ (by decide) (by decide)
theorem gh_tb_rc (h : gh_tb I I1 t) (r : Int) : so_rc I1 t r = so_rc I t r := so_rc_eq (fun k => h.2.1 9 k (by decide) (by decide)) (fun k => h.2.1 10 k (by decide) (by decide)) h.1
theorem gh_tb_wc (h : gh_tb I I1 t) {w c : Int} : fo_wc I1 t w c = fo_wc I t w c ∧ fo_Rc I1 t w c = fo_Rc I t w c := ⟨(fo_wc_eq (fun q j hq => by
  rcases hq with e | e | e
  · rw [e]
    exact h.1 j
  · rw [e]
    exact h.2.1 14 j (by decide) (by decide)
  · rw [e]
    exact h.2.1 15 j (by decide) (by decide))).1, by
  unfold fo_Rc
  rw [gh_tb_fw h]⟩
theorem gh_tb_al (h : gh_tb I I1 t) : fo_al I1 t = fo_al I t := funext fun x => by
  unfold fo_al
  rw [gh_tb_cs h, h.2.2.2]
theorem gh_tb_F1 (h : gh_tb I I1 t) {w c : Int} (k : fo_F1 I I2 t p w c) : fo_F1 I1 I2 t p w c := by
  unfold fo_F1 at k ⊢
  rw [(gh_tb_wc h).1, h.2.2.1, show (fun k : Nat => so_rc I1 t (k : Int)) = fun k : Nat => so_rc I t (k : Int) from funext fun k => gh_tb_rc h k]
  exact k
theorem gh_tb_FC (h : gh_tb I I1 t) (k : fo_FC I I2 t p) : fo_FC I1 I2 t p := ⟨fun w c w0 w1 c0 c1 => gh_tb_F1 h (k.1 w c w0 (by have := h.2.2.2; omega) c0 (by rw [gh_tb_cs h] at c1; exact c1)), by
  have k2 := k.2
  unfold fo_HC at k2 ⊢
  rw [gh_tb_al h]
  exact k2⟩
theorem gh_tb_lh (h : gh_tb I I1 t) (k : so_lhs I t) : so_lhs I1 t := fun r r0 r1 => by
  rw [gh_tb_rc h]
  exact k r r0 (by have := h.2.2.1; omega)
theorem gh_tb_by (h : gh_tb I I1 t) (k : fo_by I t) : fo_by I1 t := fun w c w0 w1 c0 c1 i i0 i1 => by
  have e14 : I1 (t + 14) = I (t + 14) := funext fun j => h.2.1 14 j (by decide) (by decide)
  rw [(gh_tb_wc h).2, e14] at i0 i1
  rw [gh_tb_cs h] at c1
  rw [h.1]
  exact k w c w0 (by have := h.2.2.2; omega) c0 c1 i i0 i1
theorem fo_FC_rw (k : fo_FC I I1 t p) (f1 : ∀ j : Nat, I2 (p + 1) j = I1 (p + 1) j) (f2 : ∀ j : Nat, I2 (p + 2) j = I1 (p + 2) j) (f3 : ∀ j : Nat, I2 (p + 3) j = I1 (p + 3) j) (f4 : ∀ j : Nat, I2 (p + 4) j = I1 (p + 4) j) : fo_FC I I2 t p := by
  unfold fo_FC fo_F1 fo_HC at k ⊢
  rw [show I2 (p + 1) = I1 (p + 1) from funext f1, show I2 (p + 2) = I1 (p + 2) from funext f2, show I2 (p + 3) = I1 (p + 3) from funext f3, show I2 (p + 4) = I1 (p + 4) from funext f4]
  exact k
theorem gh_BD_rf : gh_BD I t I := Or.inl ⟨rfl, rfl, fun _ => rfl, fun _ => rfl, fun _ => rfl, fun _ => rfl⟩
theorem gh_BD_fr (h : gh_BD I t I1) (s8 : I2 (t + 17) 8 = I1 (t + 17) 8) (s9 : I2 (t + 17) 9 = I1 (t + 17) 9) (r1 : ∀ k : Nat, I2 (t + 18) k = I1 (t + 18) k) (r2 : ∀ k : Nat, I2 (t + 19) k = I1 (t + 19) k) (r3 : ∀ k : Nat, I2 (t + 20) k = I1 (t + 20) k) (r4 : ∀ k : Nat, I2 (t + 21) k = I1 (t + 21) k) : gh_BD I t I2 := by
  rcases h with ⟨h8, h9, h1, h2, h3, h4⟩ | hf
  · exact Or.inl ⟨s8.trans h8, s9.trans h9, fun k => (r1 k).trans (h1 k), fun k => (r2 k).trans (h2 k), fun k => (r3 k).trans (h3 k), fun k => (r4 k).trans (h4 k)⟩
  · exact Or.inr (fun y1 y2 y3 y4 => ⟨s9.trans (hf y1 y2 y3 y4).1, fo_FC_rw (hf y1 y2 y3 y4).2 r1 r2 r3 r4⟩)
/-- what is kept, after a call -/
theorem gh_BD_K (h : gh_BD I t I1) (tb : gh_tb I I1 t) (y1 : so_lhs I t) (y2 : fo_by I t) (y3 : ¬ I (t + 17) 6 = I (t + 17) 7) (y4 : fo_K I t) : fo_K I1 t := fun a b => by
  have e6 := tb.2.2.1
  have e11 := tb.2.2.2
  rcases h with ⟨h8, h9, h1, h2, h3, h4⟩ | hf
  · exact gh_tb_FC tb (fo_FC_rw (y4 (by omega) (by omega)) h1 h2 h3 h4)
  · exact gh_tb_FC tb (hf y1 y2 y3 y4).2
theorem gh_BD_tr (h : gh_BD I t I1) (tb : gh_tb I I1 t) (ne : I (t + 17) 6 = I (t + 17) 7 ∨ ¬ I1 (t + 17) 6 = I1 (t + 17) 7) (k : gh_BD I1 t I2) : gh_BD I t I2 := by
  rcases k with ⟨k8, k9, k1, k2, k3, k4⟩ | kf
  · exact gh_BD_fr h k8 k9 k1 k2 k3 k4
  · refine Or.inr (fun y1 y2 y3 y4 => ?_)
    have tb' : gh_tb I1 I t := ⟨fun j => (tb.1 j).symm, fun d j a b => (tb.2.1 d j a b).symm, tb.2.2.1.symm, tb.2.2.2.symm⟩
    have k9 := kf (gh_tb_lh tb y1) (gh_tb_by tb y2) (ne.resolve_left y3) (gh_BD_K h tb y1 y2 y3 y4)
    exact ⟨k9.1.trans tb.2.2.1, gh_tb_FC tb' k9.2⟩
theorem gh_BD_9 (h : gh_BD I t I1) (tb : gh_tb I I1 t) (y1 : so_lhs I t) (y2 : fo_by I t) (y3 : ¬ I (t + 17) 6 = I (t + 17) 7) (y4 : fo_K I t) (l : I (t + 17) 9 ≤ I t 6) : I1 (t + 17) 9 ≤ I1 t 6 := by
  have e6 := tb.2.2.1
  rcases h with ⟨_, h9, _⟩ | hf
  · omega
  · have := (hf y1 y2 y3 y4).1
    omega
end BD9
/-! kept FORMS as a part of what the House keeps -/
def gh_KI (I : gr_I) (t : Nat) : Prop := so_lhs I t → fo_by I t → ¬ I (t + 17) 6 = I (t + 17) 7 → I (t + 17) 9 ≤ I t 6 ∧ fo_K I t
def gh_K9 (I : gr_I) (i t : Nat) : Prop := ((i : Int) < I 8 1 → gh_KI I t) ∧ (I 8 1 ≤ (i : Int) → I (t + 17) 9 ≤ 0)
section BE9
variable {I Iₚ : gr_I} {i t : Nat}
/-- nothing is built yet -/
theorem gh_KI_e (f : gc_FB (t + 17) (24 * I (t + 17) 8) I) (h8 : I (t + 17) 8 ≤ 0) (h9 : I (t + 17) 9 ≤ 0) (w6 : 0 ≤ I t 6) (bh : ∀ k : Nat, -1 ≤ I (t + 17 + 4) k) : gh_KI I t := fun _ _ _ => ⟨by omega, fun a b => ⟨fun w c w0 w1 c0 c1 => by omega, fo_CH_0 (fun k hk => by
  have h1 := f.1 k hk
  have h2 := bh k
  omega) (fun x hx al => by
  obtain ⟨w, c, e, w0, w1, _⟩ := al
  omega)⟩⟩
theorem gh_tb_sy (h : gh_tb I Iₚ t) : gh_tb Iₚ I t := ⟨fun j => (h.1 j).symm, fun d j a b => (h.2.1 d j a b).symm, h.2.2.1.symm, h.2.2.2.symm⟩
theorem gh_KI_s (k : gh_KI I t) (tb : gh_tb I Iₚ t) (bd : gh_BD I t Iₚ) (ne : ¬ I (t + 17) 6 = I (t + 17) 7) : gh_KI Iₚ t := fun y1 y2 _ => by
  have z1 := gh_tb_lh (gh_tb_sy tb) y1
  have z2 := gh_tb_by (gh_tb_sy tb) y2
  obtain ⟨a, b⟩ := k z1 z2 ne
  exact ⟨gh_BD_9 bd tb z1 z2 ne b a, gh_BD_K bd tb z1 z2 ne b⟩
theorem gh_K9_s (k : gh_K9 I i t) (e : Iₚ 8 1 = I 8 1) (tb : gh_tb I Iₚ t) (bd : gh_BD I t Iₚ) (ne : ¬ I (t + 17) 6 = I (t + 17) 7) (h9 : I 8 1 ≤ (i : Int) → Iₚ (t + 17) 9 = I (t + 17) 9) : gh_K9 Iₚ i t := ⟨fun h => gh_KI_s (k.1 (by omega)) tb bd ne, fun h => by
  have h1 := h9 (by omega)
  have h2 := k.2 (by omega)
  omega⟩
theorem gh_BD_same (e : ∀ d j : Nat, 17 ≤ d → d < 22 → (d = 17 → j = 8 ∨ j = 9) → Iₚ (t + d) j = I (t + d) j) : gh_BD I t Iₚ := Or.inl ⟨e 17 8 (by decide) (by decide) (fun _ => Or.inl rfl), e 17 9 (by decide) (by decide) (fun _ => Or.inr rfl), fun k => e 18 k (by decide) (by decide) (fun h => absurd h (by first | exact gz_ne rfl | decide)), fun k => e 19 k (by decide) (by decide) (fun h => absurd h (by first | exact gz_ne rfl | decide)), fun k => e 20 k (by decide) (by decide) (fun h => absurd h (by first | exact gz_ne rfl | decide)), fun k => e 21 k (by decide) (by decide) (fun h => absurd h (by first | exact gz_ne rfl | decide))⟩
end BE9
set_option maxHeartbeats 2000000 in
theorem d_X2_build_b {ws0 : List Cond} {tb : String → gz_T} (hws : gc_Ws ws0) (htb : gc_tbs tb) (sh : gz_Sh) (ro : Nat → Nat) (I : gr_I) (J : gr_J) (A : gc_A) (hI : gc_Inv ro I) (p : Nat) (a1 : Nat) (hp : gc_isForms sh ro A p) (h_a1 : gc_isTongue sh ro A a1) (G_a1 : 144 ≤ a1)  (x0 : gc_sc (a1 + 10) I) (x1 : p = a1 + 17) (x2 : gc_FB p (24 * I p 8) I) (x3 : I p 8 ≤ I a1 11) : ∃ r hₚ, gz_Ev ws0 tb 5 (yX2_build, cX2_build, 7, none) [.inr (.inr (some p)), .inr (.inr (some a1))] sh (gc_h sh I J A) r sh hₚ 0 0 ∧ (∃ (Iₚ : gr_I) (Jₚ : gr_J), hₚ = gc_h sh Iₚ Jₚ A ∧ gc_Inv ro Iₚ ∧ (∀ q j : Nat, ((q = p ∧ j = 6) ∨ (q = p ∧ j = 7) ∨ (q = p ∧ j = 8) ∨ (q = p ∧ j = 9) ∨ q = (p + 1) ∨ q = (p + 2) ∨ q = (p + 3) ∨ q = (p + 4) ∨ q = (p + 6) ∨ q = (p + 7)) ∨ Iₚ q j = I q j) ∧ (∀ q j : Nat, (False) ∨ Jₚ q j = J q j) ∧ r = none ∧ (gc_FB p (24 * I a1 11) Iₚ) ∧ (Iₚ p 8 = I a1 11) ∧ (I p 6 = I p 7 ∨ ¬ Iₚ p 6 = Iₚ p 7) ∧ (gh_BD I a1 Iₚ)) := by
  by_cases Y : ¬ I p 6 = I p 7 ∧ so_lhs I a1 ∧ fo_by I a1 ∧ (I p 8 = I a1 11 → I p 9 = I a1 6 → fo_FC I I a1 p)
  · obtain ⟨r, hₚ, E, Iₚ, Jₚ, e, hIₚ, g, k, er, p1, p2, p3, p4, p5⟩ := d_X2_build_p hws htb sh ro I J A hI p a1 hp h_a1 G_a1 x0 x1 x2 x3 Y.1 Y.2.1 Y.2.2.1 Y.2.2.2
    exact ⟨r, hₚ, E, Iₚ, Jₚ, e, hIₚ, g, k, er, p1, p2, Or.inr p4, Or.inr (fun _ _ _ _ => by rw [← x1]; exact ⟨p3, p5⟩)⟩
  · obtain ⟨r, hₚ, E, Iₚ, Jₚ, e, hIₚ, g, k, er, p1, p2, p4⟩ := d_X2_build_0 hws htb sh ro I J A hI p a1 hp h_a1 G_a1 x0 x1 x2 x3
    exact ⟨r, hₚ, E, Iₚ, Jₚ, e, hIₚ, g, k, er, p1, p2, p4, Or.inr (fun y1 y2 y3 y4 => absurd ⟨by rw [x1]; exact y3, y1, y2, by rw [x1]; exact y4⟩ Y)⟩
/-! kept FORMS through a module (p9 to p13) -/
section KV9
variable {S S' : Int → fo_c} {g gₚ : Int → Int} {Λ f : Nat → Int} {n : Int}
set_option maxHeartbeats 8000000 in
theorem fo_jn_cg2 : ∀ {m : Nat}, (∀ b : Int, b ≤ 3 → S' b = S b) → (∀ k : Int, 0 ≤ k → k < (m : Int) → gₚ k = g k) → fo_jn S' gₚ m = fo_jn S g m
  | 0, _, _ => rfl
  | m + 1, hS, hg => by
    show fo_ap (fo_jn S' gₚ m) (fo_ch S' (gₚ (m : Int))) = fo_ap (fo_jn S g m) (fo_ch S (g (m : Int)))
    rw [fo_jn_cg2 (m := m) hS (fun k a b => hg k a (by exact gz_m 0 (by omega))), hg (m : Int) (by exact gz_m 1 (by omega)) (by exact gz_m 2 (by omega))]
    have e : fo_ch S' (g (m : Int)) = fo_ch S (g (m : Int)) := by
      unfold fo_ch
      by_cases c : g (m : Int) ≤ 3
      · rw [if_pos c, if_pos c]
        exact hS _ c
      · rw [if_neg c, if_neg c]
    rw [e]
/-- bytes of FORMS are stems' numbers or letters -/
theorem fo_ex_by {k : Nat} (ok : ∀ j, j < k → fo_okb n Λ (f j)) : ∀ i : Int, 0 ≤ i → i < (fo_ex Λ f k).1 → 1 ≤ (fo_ex Λ f k).2 i := by
  induction k with
  | zero =>
    intro i h0 h1
    have h2 : i < 0 := h1
    omega
  | succ k ih =>
    intro i h0 h1
    have a := ih (fun j hj => ok j (by omega))
    have h2 : i < (fo_ex Λ f k).1 + (fo_pb Λ (f k)).1 := h1
    show 1 ≤ so_app (fo_ex Λ f k).2 (fo_ex Λ f k).1 (fo_pb Λ (f k)).1 (fo_pb Λ (f k)).2 i
    unfold so_app
    by_cases c : (fo_ex Λ f k).1 ≤ i ∧ i < (fo_ex Λ f k).1 + (fo_pb Λ (f k)).1
    · rw [if_pos c]
      unfold fo_pb at c ⊢
      rcases ok k (by omega) with o | o
      · rw [if_pos o.2]
        show 1 ≤ -f k
        omega
      · have ng : ¬ f k < 0 := by
          have := o.1
          omega
        rw [if_neg ng] at c ⊢
        have nv := so_nv o.1
        have ov := so_ov o.1
        have c2 : i < (fo_ex Λ f k).1 + so_n (f k) := c.2
        show 1 ≤ so_cut (so_n (f k)) (fun i => Λ (Int.toNat (so_o (f k) + i))) (i - (fo_ex Λ f k).1)
        rw [so_cut_i (by omega) (by omega), ov]
        have l := o.2.2 (i - (fo_ex Λ f k).1) (by omega) (by omega)
        omega
    · rw [if_neg c]
      exact a i h0 (by omega)
end KV9
section KW9
variable {i t : Nat} {I Iₚ Ir : gr_I} {J Jr : gr_J} {A Aₚ : gc_A}
/-- a WORD's PATTERN and a CELL of it -/
theorem gs_pw9 (hR : gs_R I J A Ir Jr) (yS : gs_RV I A Ir) (b8 : I 8 1 ≤ 8) (hi : (i : Int) < I 8 1) (ht : A 10 i = some t) {w : Int} (w0 : 0 ≤ w) (w1 : w < I t 11) : ((0 ≤ gs_fw I t w 1 ∧ gs_fw I t w 1 < I (t + 11) 1) ∧ fo_cs I t w ≤ 24) ∧ fo_okf (I 1 17) (gs_fw I t w) ∧ ∀ c : Int, 0 ≤ c → c < fo_cs I t w → fo_okk (I 1 17) (I (t + 14) (fo_Rc I t w c + 1)) (I (t + 14) (fo_Rc I t w c + 2)) ∧ ∀ x : Int, I (t + 14) (fo_Rc I t w c + 1) ≤ x → x < I (t + 14) (fo_Rc I t w c + 1) + I (t + 14) (fo_Rc I t w c + 2) → 1 ≤ I 20 (Int.toNat x) := by
  obtain ⟨_, _, _, _, _, _, _, hT, _⟩ := hR
  obtain ⟨_, _, _, _, qp, qw, _⟩ := hT i t hi ht
  have hh := yS.2.2 i t hi ht
  obtain ⟨⟨_, a1, _, _⟩, _, okf, _, _, k1, k2⟩ := hh.2 w w0 w1
  have f0 : 0 ≤ gs_fw I t w 1 := by
    rw [a1]
    exact k1
  have f2 : gs_fw I t w 1 < I (t + 11) 1 := by
    rw [a1, qp.1.1]
    exact k2
  have o := yS.2.1.2 (i : Int) (gs_fw I t w 1) (by omega) (by omega) f0 (by rw [← qp.1.1]; exact f2)
  have e13 := (qp.2 (gs_fw I t w 1) f0 f2).1
  have cs : fo_cs I t w = Ir 31 (Int.toNat (24 * (i : Int) + gs_fw I t w 1)) := e13
  refine ⟨⟨⟨f0, f2⟩, by rw [cs]; exact o.1.2⟩, okf, fun c c0 c1 => ?_⟩
  have ca := hh.1 (gs_fw I t w 1) f0 f2 (Int.toNat c) (by
    have c2 : c < I (t + 13) (Int.toNat (gs_fw I t w 1)) := c1
    omega)
  rw [show Int.toNat (72 * gs_fw I t w 1) + 3 * Int.toNat c = fo_Rc I t w c from by unfold fo_Rc; omega] at ca
  refine ⟨ca.2, fun x x0 x1 => ?_⟩
  have e := ca.1
  have okr := o.2 c c0 (by rw [← cs]; exact c1)
  unfold gs_de9 fo_kx fo_rx at e
  rw [show 24 * (24 * (i : Int) + gs_fw I t w 1) + ((Int.toNat c : Nat) : Int) = 24 * (24 * (i : Int) + gs_fw I t w 1) + c from by omega] at e
  rw [if_neg (by omega)] at e
  rcases okr with m | ⟨_, ok⟩
  · rw [if_pos m] at e
    exact (fo_ns e).elim
  · by_cases m2 : Ir 34 (Int.toNat (24 * (24 * (i : Int) + gs_fw I t w 1) + c)) < 0
    · rw [if_pos m2] at e
      exact (fo_ns e).elim
    · rw [if_neg m2] at e
      have e2 := Option.some.inj e
      have e3 := congrArg Prod.fst e2
      have e4 := congrFun (congrArg Prod.snd e2) (x - I (t + 14) (fo_Rc I t w c + 1))
      have e5 : so_cut (I (t + 14) (fo_Rc I t w c + 2)) (fun k => I 20 (Int.toNat (I (t + 14) (fo_Rc I t w c + 1) + k))) (x - I (t + 14) (fo_Rc I t w c + 1)) = _ := e4
      rw [so_cut_i (by omega) (by omega)] at e5
      rw [show I (t + 14) (fo_Rc I t w c + 1) + (x - I (t + 14) (fo_Rc I t w c + 1)) = x from by omega] at e5
      rw [e5]
      have e6 : I (t + 14) (fo_Rc I t w c + 2) = _ := e3
      exact fo_ex_by (n := Ir 0 59) (fun j hj => ok (j : Int) (by omega) (by omega)) _ (by omega) (by rw [← e6]; omega)
theorem gs_by9 (hR : gs_R I J A Ir Jr) (yS : gs_RV I A Ir) (b8 : I 8 1 ≤ 8) (hi : (i : Int) < I 8 1) (ht : A 10 i = some t) : fo_by I t := fun w c w0 w1 c0 c1 => ((gs_pw9 hR yS b8 hi ht w0 w1).2.2 c c0 c1).2
theorem gs_lh9 (yS : gs_RV I A Ir) (hi : (i : Int) < I 8 1) (ht : A 10 i = some t) : so_lhs I t := fun r r0 r1 => by
  have q := (yS.1 i t hi ht).2 r r0 r1
  rw [q.1]
  exact q.2.2.2
theorem gs_KVw (hR : gs_R I J A Ir Jr) (yS : gs_RV I A Ir) (b8 : I 8 1 ≤ 8) (hi : (i : Int) < I 8 1) (ht : A 10 i = some t) (pk : gc_PKs I Iₚ) (kd : gs_kD t I Iₚ) {w : Int} (w0 : 0 ≤ w) (w1 : w < I t 11) : fo_cs Iₚ t w = fo_cs I t w ∧ ∀ c : Int, 0 ≤ c → c < fo_cs I t w → fo_wc Iₚ t w c = fo_wc I t w c := by
  obtain ⟨⟨⟨f0, f2⟩, b24⟩, okf, oc⟩ := gs_pw9 hR yS b8 hi ht w0 w1
  have ef : ∀ j, j < 11 → gs_fw Iₚ t w j = gs_fw I t w j := fun j hj => kd.2 _ (by omega)
  refine ⟨?_, fun c c0 c1 => ?_⟩
  · unfold fo_cs
    rw [ef 1 (by decide)]
    exact kd.1.2.1 _ (by omega)
  · have ok := (oc c c0 c1).1
    have eR : fo_Rc Iₚ t w c = fo_Rc I t w c := by
      unfold fo_Rc
      rw [ef 1 (by decide)]
    have r1 : Iₚ (t + 14) (fo_Rc I t w c + 1) = I (t + 14) (fo_Rc I t w c + 1) := kd.1.2.2 _ (by unfold fo_Rc; omega)
    have r2 : Iₚ (t + 14) (fo_Rc I t w c + 2) = I (t + 14) (fo_Rc I t w c + 2) := kd.1.2.2 _ (by unfold fo_Rc; omega)
    unfold fo_wc
    rw [eR, r1, r2]
    by_cases m : I (t + 14) (fo_Rc I t w c + 2) < 0
    · rw [if_pos m, if_pos m]
    · rw [if_neg m, if_neg m]
      have o2 := ok.resolve_left m
      exact fo_jn_cg2 (fun b hb => fo_sc_kp okf (by omega) pk.2 ef) (fun k k0 k1 => pk.2 _ (by omega))
theorem fo_out_U {U U' : Nat → so_ru} {d : Nat} {y : fo_c} {g : Nat → Int} {z : Int} (eU : ∀ k, k < d → U' k = U k) (h : fo_out U d y g z) : fo_out U' d y g z := by
  cases y with
  | none => exact h
  | some x =>
    obtain ⟨n', fin, z9, a, b⟩ := h
    exact ⟨n', fin, z9, so_all_U (fun k hk => (eU k hk).symm) a, b⟩
theorem gs_KV (hR : gs_R I J A Ir Jr) (yS : gs_RV I A Ir) (b8 : I 8 1 ≤ 8) (cv : gs_CV I A Iₚ Aₚ) (hi : (i : Int) < I 8 1) (ht : A 10 i = some t) (ht' : Aₚ 10 i = some t) (fr : ∀ d j : Nat, 17 ≤ d → d < 25 → Iₚ (t + d) j = I (t + d) j) (h8 : I (t + 17) 8 ≤ I t 11) (k : gh_KI I t) : gh_KI Iₚ t := fun _ _ y3 => by
  obtain ⟨pk, _, ck⟩ := cv.1
  obtain ⟨_, l6, kc⟩ := ck i t hi ht'
  obtain ⟨_, l11, kd⟩ := cv.2.2 i t hi ht'
  have rs := yS.1 i t hi ht
  have rc : ∀ r : Int, 0 ≤ r → r < I t 6 → so_rc Iₚ t r = so_rc I t r := fun r r0 r1 => (so_rc_kp (rs.2 r r0 r1).2.1 pk kc.1.1 kc.1.2 (fun k hk => kc.2 _ (by omega))).1
  have e6 := fr 17 6 (by decide) (by decide)
  have e7 := fr 17 7 (by decide) (by decide)
  have e8 := fr 17 8 (by decide) (by decide)
  have e9 := fr 17 9 (by decide) (by decide)
  obtain ⟨l9, fk⟩ := k (gs_lh9 yS hi ht) (gs_by9 hR yS b8 hi ht) (fun h => y3 (by omega))
  refine ⟨by omega, fun a b => ?_⟩
  have c11 : Iₚ t 11 = I t 11 := by omega
  have c6 : Iₚ t 6 = I t 6 := by omega
  have F := fo_FC_rw (I2 := Iₚ) (fk (by omega) (by omega)) (fun j => fr 18 j (by decide) (by decide)) (fun j => fr 19 j (by decide) (by decide)) (fun j => fr 20 j (by decide) (by decide)) (fun j => fr 21 j (by decide) (by decide))
  have al : ∀ x : Int, fo_al Iₚ t x ↔ fo_al I t x := by
    intro x
    constructor
    · intro h
      obtain ⟨w, c, e, w0, w1, c0, c1⟩ := h
      rw [(gs_KVw hR yS b8 hi ht pk kd w0 (by omega)).1] at c1
      exact ⟨w, c, e, w0, by omega, c0, c1⟩
    · intro h
      obtain ⟨w, c, e, w0, w1, c0, c1⟩ := h
      exact ⟨w, c, e, w0, by omega, c0, by rw [(gs_KVw hR yS b8 hi ht pk kd w0 w1).1]; exact c1⟩
  refine ⟨fun w c w0 w1 c0 c1 => ?_, ?_⟩
  · have q := gs_KVw hR yS b8 hi ht pk kd w0 (by omega)
    rw [q.1] at c1
    have F1 := F.1 w c w0 (by omega) c0 c1
    unfold fo_F1 at F1 ⊢
    rw [q.2 c c0 c1, c6]
    exact fo_out_U (fun r hr => rc (r : Int) (by omega) (by omega)) F1
  · have F2 := F.2
    unfold fo_HC at F2 ⊢
    rw [show fo_al Iₚ t = fo_al I t from funext fun x => propext (al x)]
    exact F2
end KW9
