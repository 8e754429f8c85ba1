/-! MEANINGS: a function's term is its own, and closed. -/
def gr_FM (I : gr_I) : Prop := ∀ f : Nat, (f : Int) < I 0 3 → 0 ≤ I 10 f → I 10 f < I 0 64 ∧ gr_OWN (I 10 f) (f : Int) 0 I
theorem gr_FM_x {I Iₚ : gr_I} (h : gr_FM I) (g : gr_TS9 I Iₚ) (h1 : ∀ k, Iₚ 10 k = I 10 k) (h2 : Iₚ 0 3 = I 0 3) (h3 : I 0 64 ≤ Iₚ 0 64) : gr_FM Iₚ := fun f hf h0 => by
  rw [h1] at h0 ⊢
  obtain ⟨a, b⟩ := h f (by omega) h0
  exact ⟨by omega, gr_OWN_x b g a rfl (Int.le_refl _)⟩
theorem gr_FM_fr {I Iₚ : gr_I} (h : gr_FM I) (h1 : ∀ k, Iₚ 10 k = I 10 k) (h2 : ∀ k, Iₚ 55 k = I 55 k) (h5 : ∀ k, Iₚ 52 k = I 52 k) (h6 : ∀ k, Iₚ 53 k = I 53 k) (h7 : ∀ k, Iₚ 54 k = I 54 k) (h3 : Iₚ 0 64 = I 0 64) (h4 : Iₚ 0 3 = I 0 3) : gr_FM Iₚ := gr_FM_x h (gr_TS9_fr h2 h5 h6 h7) h1 h4 (by omega)
theorem gr_FM_st {I Iₚ : gr_I} {k : Nat} {z : Int} (h : gr_FM I) (p : ∀ b j, ¬ (b = 10 ∧ j = k) → Iₚ b j = I b j) (q : Iₚ 10 k = z) (hz : z < I 0 64) (ho : gr_OWN z (k : Int) 0 I) : gr_FM Iₚ := fun f hf h0 => by
  have g : gr_TS9 I Iₚ := gr_TS9_fr (fun j => p _ _ (fun q => absurd q.1 (by first | exact gz_ne rfl | decide))) (fun j => p _ _ (fun q => absurd q.1 (by first | exact gz_ne rfl | decide))) (fun j => p _ _ (fun q => absurd q.1 (by first | exact gz_ne rfl | decide))) (fun j => p _ _ (fun q => absurd q.1 (by first | exact gz_ne rfl | decide)))
  have e1 := p 0 64 (fun q => absurd q.1 (by first | exact gz_ne rfl | decide))
  have e2 := p 0 3 (fun q => absurd q.1 (by first | exact gz_ne rfl | decide))
  by_cases c : f = k
  · subst c
    rw [q]
    exact ⟨by omega, gr_OWN_x ho g hz rfl (Int.le_refl _)⟩
  · rw [p 10 f (fun q => c q.2)] at h0 ⊢
    obtain ⟨a, b⟩ := h f (by omega) h0
    exact ⟨by omega, gr_OWN_x b g a rfl (Int.le_refl _)⟩
theorem gr_FM_new {I I1 Iₚ : gr_I} {k : Nat} (h : gr_FM I) (p1 : ∀ b j, ¬ (b = 0 ∧ j = 3) → I1 b j = I b j) (q1 : I1 0 3 = I 0 3 + 1) (hk : (k : Int) = I 0 3) (p : ∀ b j, ¬ (b = 10 ∧ j = k) → Iₚ b j = I1 b j) (q : Iₚ 10 k = -1) : gr_FM Iₚ := fun f hf h0 => by
  have g : gr_TS9 I Iₚ := gr_TS9_fr (fun j => (p _ _ (fun q => absurd q.1 (by first | exact gz_ne rfl | decide))).trans (p1 _ _ (fun q => absurd q.1 (by first | exact gz_ne rfl | decide)))) (fun j => (p _ _ (fun q => absurd q.1 (by first | exact gz_ne rfl | decide))).trans (p1 _ _ (fun q => absurd q.1 (by first | exact gz_ne rfl | decide)))) (fun j => (p _ _ (fun q => absurd q.1 (by first | exact gz_ne rfl | decide))).trans (p1 _ _ (fun q => absurd q.1 (by first | exact gz_ne rfl | decide)))) (fun j => (p _ _ (fun q => absurd q.1 (by first | exact gz_ne rfl | decide))).trans (p1 _ _ (fun q => absurd q.1 (by first | exact gz_ne rfl | decide))))
  have e1 : Iₚ 0 64 = I 0 64 := (p 0 64 (fun q => absurd q.1 (by first | exact gz_ne rfl | decide))).trans (p1 _ _ (by decide))
  have e2 := p 0 3 (fun q => absurd q.1 (by first | exact gz_ne rfl | decide))
  by_cases c : f = k
  · subst c
    omega
  · have e3 : Iₚ 10 f = I 10 f := (p 10 f (fun q => c q.2)).trans (p1 _ _ (fun q => absurd q.1 (by first | exact gz_ne rfl | decide)))
    rw [e3] at h0 ⊢
    obtain ⟨a, b⟩ := h f (by omega) h0
    exact ⟨by omega, gr_OWN_x b g a rfl (Int.le_refl _)⟩
theorem gr_TO_6 {I Iₚ : gr_I} {k : Nat} (h : gr_TO I) (p : ∀ b j, ¬ (b = 6 ∧ j = k) → Iₚ b j = I b j) (hz : I 0 3 ≤ (k : Int)) : gr_TO Iₚ := gr_TO_x h (fun j => p _ _ (fun q => absurd q.1 (by first | exact gz_ne rfl | decide))) (fun j => p _ _ (fun q => absurd q.1 (by first | exact gz_ne rfl | decide))) (fun j => p _ _ (fun q => absurd q.1 (by first | exact gz_ne rfl | decide))) (fun j => p _ _ (fun q => absurd q.1 (by first | exact gz_ne rfl | decide))) (fun f hf => p _ _ (fun q => by have := q.2; omega)) (Int.le_of_eq (p 0 3 (fun q => absurd q.1 (by first | exact gz_ne rfl | decide))).symm) (Int.le_of_eq (p 0 64 (fun q => absurd q.1 (by first | exact gz_ne rfl | decide))))
theorem gr_TO_n {I Iₚ : gr_I} (h : gr_TO I) (p : ∀ b j, ¬ (b = 0 ∧ j = 3) → Iₚ b j = I b j) (hz : I 0 3 ≤ Iₚ 0 3) : gr_TO Iₚ := gr_TO_x h (fun j => p _ _ (fun q => absurd q.1 (by first | exact gz_ne rfl | decide))) (fun j => p _ _ (fun q => absurd q.1 (by first | exact gz_ne rfl | decide))) (fun j => p _ _ (fun q => absurd q.1 (by first | exact gz_ne rfl | decide))) (fun j => p _ _ (fun q => absurd q.1 (by first | exact gz_ne rfl | decide))) (fun f _ => p _ _ (fun q => absurd q.1 (by first | exact gz_ne rfl | decide))) hz (Int.le_of_eq (p 0 64 (by decide)))
/-! WHAT A MODULE HAS GIVEN A MEANING; and how a wrong module's are taken back. -/
def gr_MQ (I9 I : gr_I) : Prop := (I9 0 64 ≤ I 0 64 ∧ gr_TS9 I9 I) ∧ ∀ f : Nat, (f : Int) < I 0 3 → I9 0 64 ≤ I 10 f → ∃ j : Nat, (j : Int) < I 0 99 ∧ I 60 j = (f : Int)
theorem gr_MQ_tm {I9 I Iₚ : gr_I} (h : gr_MQ I9 I) (g : gr_TS9 I Iₚ) (h1 : ∀ k, Iₚ 10 k = I 10 k) (h2 : ∀ k, Iₚ 60 k = I 60 k) (h3 : I 0 64 ≤ Iₚ 0 64) (h4 : Iₚ 0 3 = I 0 3) (h5 : Iₚ 0 99 = I 0 99) : gr_MQ I9 Iₚ := ⟨⟨by have := h.1.1; omega, gr_TS9_tr h.1.2 g h.1.1⟩, fun f hf h0 => by
  rw [h1] at h0
  obtain ⟨j, a, b⟩ := h.2 f (by omega) h0
  exact ⟨j, by omega, by rw [h2]; exact b⟩⟩
theorem gr_MQ_fr {I9 I Iₚ : gr_I} (h : gr_MQ I9 I) (h1 : ∀ k, Iₚ 10 k = I 10 k) (h2 : ∀ k, Iₚ 55 k = I 55 k) (h5 : ∀ k, Iₚ 52 k = I 52 k) (h6 : ∀ k, Iₚ 53 k = I 53 k) (h7 : ∀ k, Iₚ 54 k = I 54 k) (h8 : ∀ k, Iₚ 60 k = I 60 k) (h3 : Iₚ 0 64 = I 0 64) (h4 : Iₚ 0 3 = I 0 3) (h9 : Iₚ 0 99 = I 0 99) : gr_MQ I9 Iₚ := gr_MQ_tm h (gr_TS9_fr h2 h5 h6 h7) h1 h8 (by omega) h4 h9
theorem gr_MQ_st {I9 I : gr_I} (fm : gr_FM I) (g : gr_TS9 I9 I) (e : I9 0 64 = I 0 64) (h0 : 0 ≤ I9 0 64) : gr_MQ I9 I := ⟨⟨by omega, g⟩, fun f hf h1 => by
  have := (fm f hf (by omega)).1
  omega⟩
theorem gr_MQ_mn {I9 I I1 I2 Iₚ : gr_I} {k j : Nat} {v : Int} (h : gr_MQ I9 I) (p : ∀ b i, ¬ (b = 10 ∧ i = k) → I1 b i = I b i) (p2 : ∀ b i, ¬ (b = 0 ∧ i = 99) → I2 b i = I1 b i) (q2 : I2 0 99 = I 0 99 + 1) (p3 : ∀ b i, ¬ (b = 60 ∧ i = j) → Iₚ b i = I2 b i) (q3 : Iₚ 60 j = v) (hv : (k : Int) = v) (hj : (j : Int) = I 0 99) : gr_MQ I9 Iₚ := by
  have r : ∀ b i, ¬ (b = 10 ∧ i = k) → ¬ (b = 0 ∧ i = 99) → ¬ (b = 60 ∧ i = j) → Iₚ b i = I b i := fun b i a1 a2 a3 => (p3 b i a3).trans ((p2 b i a2).trans (p b i a1))
  have r9 : ∀ b : Nat, ¬ b = 10 → ¬ b = 0 → ¬ b = 60 → ∀ i, Iₚ b i = I b i := fun b a1 a2 a3 i => r b i (fun q => a1 q.1) (fun q => a2 q.1) (fun q => a3 q.1)
  have e1 : Iₚ 0 64 = I 0 64 := r 0 64 (fun q => absurd q.1 (by first | exact gz_ne rfl | decide)) (fun q => absurd q.2 (by first | exact gz_ne rfl | decide)) (fun q => absurd q.1 (by first | exact gz_ne rfl | decide))
  have e2 : Iₚ 0 3 = I 0 3 := r 0 3 (fun q => absurd q.1 (by first | exact gz_ne rfl | decide)) (fun q => absurd q.2 (by first | exact gz_ne rfl | decide)) (fun q => absurd q.1 (by first | exact gz_ne rfl | decide))
  have e3 : Iₚ 0 99 = I 0 99 + 1 := (p3 0 99 (fun q => absurd q.1 (by first | exact gz_ne rfl | decide))).trans q2
  refine ⟨⟨by have := h.1.1; omega, gr_TS9_tr h.1.2 (gr_TS9_fr (r9 _ (by decide) (by decide) (by decide)) (r9 _ (by decide) (by decide) (by decide)) (r9 _ (by decide) (by decide) (by decide)) (r9 _ (by decide) (by decide) (by decide))) h.1.1⟩, fun f hf h0 => ?_⟩
  by_cases c : f = k
  · exact ⟨j, by omega, by omega⟩
  · rw [r 10 f (fun q => c q.2) (fun q => absurd q.1 (by first | exact gz_ne rfl | decide)) (fun q => absurd q.1 (by first | exact gz_ne rfl | decide))] at h0
    obtain ⟨i, a, b⟩ := h.2 f (by omega) h0
    refine ⟨i, by omega, ?_⟩
    rw [r 60 i (fun q => absurd q.1 (by first | exact gz_ne rfl | decide)) (fun q => absurd q.1 (by first | exact gz_ne rfl | decide)) (fun q => by have := q.2; omega)]
    exact b
theorem gr_MQ_new {I9 I I1 Iₚ : gr_I} {k : Nat} (h : gr_MQ I9 I) (h9 : 0 ≤ I9 0 64) (p1 : ∀ b j, ¬ (b = 0 ∧ j = 3) → I1 b j = I b j) (q1 : I1 0 3 = I 0 3 + 1) (hk : (k : Int) = I 0 3) (p : ∀ b j, ¬ (b = 10 ∧ j = k) → Iₚ b j = I1 b j) (q : Iₚ 10 k = -1) : gr_MQ I9 Iₚ := by
  have r9 : ∀ b : Nat, ¬ b = 10 → ¬ b = 0 → ∀ i, Iₚ b i = I b i := fun b a1 a2 i => (p b i (fun q => a1 q.1)).trans (p1 b i (fun q => a2 q.1))
  have e1 : Iₚ 0 64 = I 0 64 := (p 0 64 (fun q => absurd q.1 (by first | exact gz_ne rfl | decide))).trans (p1 _ _ (by decide))
  have e2 := p 0 3 (fun q => absurd q.1 (by first | exact gz_ne rfl | decide))
  have e3 : Iₚ 0 99 = I 0 99 := (p 0 99 (fun q => absurd q.1 (by first | exact gz_ne rfl | decide))).trans (p1 _ _ (by decide))
  refine ⟨⟨by have := h.1.1; omega, gr_TS9_tr h.1.2 (gr_TS9_fr (r9 _ (by decide) (by decide)) (r9 _ (by decide) (by decide)) (r9 _ (by decide) (by decide)) (r9 _ (by decide) (by decide))) h.1.1⟩, fun f hf h0 => ?_⟩
  by_cases c : f = k
  · subst c
    omega
  · have e4 : Iₚ 10 f = I 10 f := (p 10 f (fun q => c q.2)).trans (p1 _ _ (fun q => absurd q.1 (by first | exact gz_ne rfl | decide)))
    rw [e4] at h0
    obtain ⟨i, a, b⟩ := h.2 f (by omega) h0
    exact ⟨i, by omega, by rw [r9 _ (by decide) (by decide)]; exact b⟩
def gr_FG (I Iₚ : gr_I) (k : Int) : Prop := (∀ j : Nat, (j : Int) < k → Iₚ 10 (Int.toNat (I 60 j)) = -1) ∧ ∀ f : Nat, Iₚ 10 f = I 10 f ∨ Iₚ 10 f = -1
def gr_FQ (I Iₚ : gr_I) : Prop := ∀ f : Nat, Iₚ 10 f = I 10 f
theorem gr_FG_0 {I Iₚ : gr_I} (h : gr_FQ I Iₚ) : gr_FG I Iₚ 0 := ⟨fun j hj => by omega, fun f => Or.inl (h f)⟩
theorem gr_FG_nx {I I1 Iₚ : gr_I} {k : Int} {j : Nat} (h : gr_FG I I1 k) (hk : 0 ≤ k) (p : ∀ b i, ¬ (b = 10 ∧ i = j) → Iₚ b i = I1 b i) (q : Iₚ 10 j = -1) (hj : j = Int.toNat (I 60 (Int.toNat k))) : gr_FG I Iₚ (k + 1) := ⟨fun i hi => by
  by_cases c : Int.toNat (I 60 i) = j
  · rw [c]
    exact q
  · rw [p _ _ (fun z => c z.2)]
    by_cases e : (i : Int) < k
    · exact h.1 i e
    · have e9 : i = Int.toNat k := by omega
      rw [e9] at c
      exact absurd hj.symm c, fun f => by
  by_cases c : f = j
  · rw [c]
    exact Or.inr q
  · rw [p _ _ (fun z => c z.2)]
    exact h.2 f⟩
theorem gr_FG_m {I Iₚ : gr_I} {k m : Int} (h : gr_FG I Iₚ k) (hm : m ≤ k) : gr_FG I Iₚ m := ⟨fun j hj => h.1 j (by omega), h.2⟩
theorem gr_FM_back {I9 I1 I2 I3 : gr_I} (h1 : gr_FM I1) (mq : gr_MQ I9 I1) (fg : gr_FG I1 I2 (I1 0 99)) (h3 : ∀ k, I3 10 k = I2 10 k) (r1 : ∀ k, I3 55 k = I1 55 k) (e1 : I3 0 64 = I9 0 64) (e2 : I3 0 3 ≤ I1 0 3) : gr_FM I3 := fun f hf h0 => by
  rw [h3] at h0 ⊢
  rcases fg.2 f with c | c
  · rw [c] at h0 ⊢
    obtain ⟨a, b⟩ := h1 f (by omega) h0
    refine ⟨?_, ?_⟩
    · by_cases d : I9 0 64 ≤ I1 10 f
      · exfalso
        obtain ⟨j, j1, j2⟩ := mq.2 f (by omega) d
        have := fg.1 j j1
        rw [j2, show Int.toNat (f : Int) = f from by omega, c] at this
        omega
      · omega
    · rcases b with b | b
      · exact Or.inl b
      · refine Or.inr ?_
        rw [r1, r1]
        exact b
  · omega
theorem gr_TO_back {I9 I1 I3 : gr_I} (h9 : gr_TO I9) (tm : gr_TM I9) (hI : gr_Inv I9) (g : gr_TS9 I9 I1) (r1 : ∀ k, I3 55 k = I1 55 k) (r2 : ∀ k, I3 52 k = I1 52 k) (r3 : ∀ k, I3 53 k = I1 53 k) (r4 : ∀ k, I3 54 k = I1 54 k) (fa : ∀ f : Nat, (f : Int) < I9 0 3 → I3 6 f = I9 6 f) (e1 : I3 0 64 = I9 0 64) (e2 : I3 0 3 = I9 0 3) : gr_TO I3 := fun n hn => by
  have gn := g n (by omega)
  obtain ⟨a, b, c, d, e⟩ := h9 n (by omega)
  have t := tm n (by omega)
  have m1 := (show 0 ≤ I9 53 n ∧ I9 53 n ≤ 1999 from (hI 53 n).1)
  have m2 := (show 0 ≤ I9 54 n ∧ I9 54 n ≤ 1999 from (hI 54 n).1)
  have s1 : I3 55 n = I9 55 n := (r1 n).trans gn.1.1
  have s2 : I3 55 (5000 + n) = I9 55 (5000 + n) := (r1 _).trans gn.1.2
  have s3 : I3 52 n = I9 52 n := (r2 n).trans gn.2.1
  have s4 : I3 53 n = I9 53 n := (r3 n).trans gn.2.2.1
  have s5 : I3 54 n = I9 54 n := (r4 n).trans gn.2.2.2
  rw [s1, s2, s3, s4, s5, fa _ (by omega), e2]
  refine ⟨a, b, c, fun q => ?_, fun q => ?_⟩
  · have l := t.1 q
    have gc := g (Int.toNat (I9 53 n)) (by omega)
    rw [(r1 _).trans gc.1.1, (r1 _).trans gc.1.2]
    exact d q
  · have l := t.2 q
    have gc := g (Int.toNat (I9 53 n)) (by omega)
    have gd := g (Int.toNat (I9 54 n)) (by omega)
    rw [(r1 (Int.toNat (I9 53 n))).trans gc.1.1, (r1 (5000 + Int.toNat (I9 53 n))).trans gc.1.2, (r1 (Int.toNat (I9 54 n))).trans gd.1.1, (r1 (5000 + Int.toNat (I9 54 n))).trans gd.1.2]
    exact e q
