/-! MEANINGS: a function's term is its own, and closed. -/
def gr_FM (I : gr_I) : Prop := ∀ f : Nat, (f : Int) < I 0 3 → 0 ≤ I 10 f → I 10 f < I 0 64 ∧ gr_OWN (I 10 f) (f : Int) 0 I
theorem gr_FM_x {I I' : gr_I} (h : gr_FM I) (g : gr_TS9 I I') (h1 : ∀ k, I' 10 k = I 10 k) (h2 : I' 0 3 = I 0 3) (h3 : I 0 64 ≤ I' 0 64) : gr_FM I' := fun f hf h0 => by
  rw [h1] at h0 ⊢
  obtain ⟨a, b⟩ := h f (by omega) h0
  exact ⟨by omega, gr_OWN_x b g a rfl (Int.le_refl _)⟩
theorem gr_FM_fr {I I' : gr_I} (h : gr_FM I) (h1 : ∀ k, I' 10 k = I 10 k) (h2 : ∀ k, I' 55 k = I 55 k) (h5 : ∀ k, I' 52 k = I 52 k) (h6 : ∀ k, I' 53 k = I 53 k) (h7 : ∀ k, I' 54 k = I 54 k) (h3 : I' 0 64 = I 0 64) (h4 : I' 0 3 = I 0 3) : gr_FM I' := gr_FM_x h (gr_TS9_fr h2 h5 h6 h7) h1 h4 (by omega)
theorem gr_FM_st {I I' : gr_I} {k : Nat} {z : Int} (h : gr_FM I) (p : ∀ b j, ¬ (b = 10 ∧ j = k) → I' b j = I b j) (q : I' 10 k = z) (hz : z < I 0 64) (ho : gr_OWN z (k : Int) 0 I) : gr_FM I' := fun f hf h0 => by
  have g : gr_TS9 I I' := gr_TS9_fr (fun j => p _ _ (fun q => absurd q.1 (by decide))) (fun j => p _ _ (fun q => absurd q.1 (by decide))) (fun j => p _ _ (fun q => absurd q.1 (by decide))) (fun j => p _ _ (fun q => absurd q.1 (by decide)))
  have e1 := p 0 64 (fun q => absurd q.1 (by decide))
  have e2 := p 0 3 (fun q => absurd q.1 (by decide))
  by_cases c : f = k
  · subst c
    rw [q]
    exact ⟨by omega, gr_OWN_x ho g hz rfl (Int.le_refl _)⟩
  · rw [p 10 f (fun q => c q.2)] at h0 ⊢
    obtain ⟨a, b⟩ := h f (by omega) h0
    exact ⟨by omega, gr_OWN_x b g a rfl (Int.le_refl _)⟩
theorem gr_FM_new {I I1 I' : gr_I} {k : Nat} (h : gr_FM I) (p1 : ∀ b j, ¬ (b = 0 ∧ j = 3) → I1 b j = I b j) (q1 : I1 0 3 = I 0 3 + 1) (hk : (k : Int) = I 0 3) (p : ∀ b j, ¬ (b = 10 ∧ j = k) → I' b j = I1 b j) (q : I' 10 k = -1) : gr_FM I' := fun f hf h0 => by
  have g : gr_TS9 I I' := gr_TS9_fr (fun j => (p _ _ (fun q => absurd q.1 (by decide))).trans (p1 _ _ (fun q => absurd q.1 (by decide)))) (fun j => (p _ _ (fun q => absurd q.1 (by decide))).trans (p1 _ _ (fun q => absurd q.1 (by decide)))) (fun j => (p _ _ (fun q => absurd q.1 (by decide))).trans (p1 _ _ (fun q => absurd q.1 (by decide)))) (fun j => (p _ _ (fun q => absurd q.1 (by decide))).trans (p1 _ _ (fun q => absurd q.1 (by decide))))
  have e1 : I' 0 64 = I 0 64 := (p 0 64 (fun q => absurd q.1 (by decide))).trans (p1 _ _ (by decide))
  have e2 := p 0 3 (fun q => absurd q.1 (by decide))
  by_cases c : f = k
  · subst c
    omega
  · have e3 : I' 10 f = I 10 f := (p 10 f (fun q => c q.2)).trans (p1 _ _ (fun q => absurd q.1 (by decide)))
    rw [e3] at h0 ⊢
    obtain ⟨a, b⟩ := h f (by omega) h0
    exact ⟨by omega, gr_OWN_x b g a rfl (Int.le_refl _)⟩
theorem gr_TO_6 {I I' : gr_I} {k : Nat} (h : gr_TO I) (p : ∀ b j, ¬ (b = 6 ∧ j = k) → I' b j = I b j) (hz : I 0 3 ≤ (k : Int)) : gr_TO I' := gr_TO_x h (fun j => p _ _ (fun q => absurd q.1 (by decide))) (fun j => p _ _ (fun q => absurd q.1 (by decide))) (fun j => p _ _ (fun q => absurd q.1 (by decide))) (fun j => p _ _ (fun q => absurd q.1 (by decide))) (fun f hf => p _ _ (fun q => by have := q.2; omega)) (Int.le_of_eq (p 0 3 (fun q => absurd q.1 (by decide))).symm) (Int.le_of_eq (p 0 64 (fun q => absurd q.1 (by decide))))
theorem gr_TO_n {I I' : gr_I} (h : gr_TO I) (p : ∀ b j, ¬ (b = 0 ∧ j = 3) → I' b j = I b j) (hz : I 0 3 ≤ I' 0 3) : gr_TO I' := gr_TO_x h (fun j => p _ _ (fun q => absurd q.1 (by decide))) (fun j => p _ _ (fun q => absurd q.1 (by decide))) (fun j => p _ _ (fun q => absurd q.1 (by decide))) (fun j => p _ _ (fun q => absurd q.1 (by decide))) (fun f _ => p _ _ (fun q => absurd q.1 (by decide))) hz (Int.le_of_eq (p 0 64 (by decide)))
/-! WHAT A MODULE HAS GIVEN A MEANING; and how a wrong module's are taken back. -/
def gr_MQ (I9 I : gr_I) : Prop := (I9 0 64 ≤ I 0 64 ∧ gr_TS9 I9 I) ∧ ∀ f : Nat, (f : Int) < I 0 3 → I9 0 64 ≤ I 10 f → ∃ j : Nat, (j : Int) < I 0 99 ∧ I 60 j = (f : Int)
theorem gr_MQ_tm {I9 I I' : gr_I} (h : gr_MQ I9 I) (g : gr_TS9 I I') (h1 : ∀ k, I' 10 k = I 10 k) (h2 : ∀ k, I' 60 k = I 60 k) (h3 : I 0 64 ≤ I' 0 64) (h4 : I' 0 3 = I 0 3) (h5 : I' 0 99 = I 0 99) : gr_MQ I9 I' := ⟨⟨by have := h.1.1; omega, gr_TS9_tr h.1.2 g h.1.1⟩, fun f hf h0 => by
  rw [h1] at h0
  obtain ⟨j, a, b⟩ := h.2 f (by omega) h0
  exact ⟨j, by omega, by rw [h2]; exact b⟩⟩
theorem gr_MQ_fr {I9 I I' : gr_I} (h : gr_MQ I9 I) (h1 : ∀ k, I' 10 k = I 10 k) (h2 : ∀ k, I' 55 k = I 55 k) (h5 : ∀ k, I' 52 k = I 52 k) (h6 : ∀ k, I' 53 k = I 53 k) (h7 : ∀ k, I' 54 k = I 54 k) (h8 : ∀ k, I' 60 k = I 60 k) (h3 : I' 0 64 = I 0 64) (h4 : I' 0 3 = I 0 3) (h9 : I' 0 99 = I 0 99) : gr_MQ I9 I' := gr_MQ_tm h (gr_TS9_fr h2 h5 h6 h7) h1 h8 (by omega) h4 h9
theorem gr_MQ_st {I9 I : gr_I} (fm : gr_FM I) (g : gr_TS9 I9 I) (e : I9 0 64 = I 0 64) (h0 : 0 ≤ I9 0 64) : gr_MQ I9 I := ⟨⟨by omega, g⟩, fun f hf h1 => by
  have := (fm f hf (by omega)).1
  omega⟩
theorem gr_MQ_mn {I9 I I1 I2 I' : gr_I} {k j : Nat} {v : Int} (h : gr_MQ I9 I) (p : ∀ b i, ¬ (b = 10 ∧ i = k) → I1 b i = I b i) (p2 : ∀ b i, ¬ (b = 0 ∧ i = 99) → I2 b i = I1 b i) (q2 : I2 0 99 = I 0 99 + 1) (p3 : ∀ b i, ¬ (b = 60 ∧ i = j) → I' b i = I2 b i) (q3 : I' 60 j = v) (hv : (k : Int) = v) (hj : (j : Int) = I 0 99) : gr_MQ I9 I' := by
  have r : ∀ b i, ¬ (b = 10 ∧ i = k) → ¬ (b = 0 ∧ i = 99) → ¬ (b = 60 ∧ i = j) → I' b i = I b i := fun b i a1 a2 a3 => (p3 b i a3).trans ((p2 b i a2).trans (p b i a1))
  have r9 : ∀ b : Nat, ¬ b = 10 → ¬ b = 0 → ¬ b = 60 → ∀ i, I' b i = I b i := fun b a1 a2 a3 i => r b i (fun q => a1 q.1) (fun q => a2 q.1) (fun q => a3 q.1)
  have e1 : I' 0 64 = I 0 64 := r 0 64 (fun q => absurd q.1 (by decide)) (fun q => absurd q.2 (by decide)) (fun q => absurd q.1 (by decide))
  have e2 : I' 0 3 = I 0 3 := r 0 3 (fun q => absurd q.1 (by decide)) (fun q => absurd q.2 (by decide)) (fun q => absurd q.1 (by decide))
  have e3 : I' 0 99 = I 0 99 + 1 := (p3 0 99 (fun q => absurd q.1 (by decide))).trans q2
  refine ⟨⟨by have := h.1.1; omega, gr_TS9_tr h.1.2 (gr_TS9_fr (r9 _ (by decide) (by decide) (by decide)) (r9 _ (by decide) (by decide) (by decide)) (r9 _ (by decide) (by decide) (by decide)) (r9 _ (by decide) (by decide) (by decide))) h.1.1⟩, fun f hf h0 => ?_⟩
  by_cases c : f = k
  · exact ⟨j, by omega, by omega⟩
  · rw [r 10 f (fun q => c q.2) (fun q => absurd q.1 (by decide)) (fun q => absurd q.1 (by decide))] at h0
    obtain ⟨i, a, b⟩ := h.2 f (by omega) h0
    refine ⟨i, by omega, ?_⟩
    rw [r 60 i (fun q => absurd q.1 (by decide)) (fun q => absurd q.1 (by decide)) (fun q => by have := q.2; omega)]
    exact b
theorem gr_MQ_new {I9 I I1 I' : gr_I} {k : Nat} (h : gr_MQ I9 I) (h9 : 0 ≤ I9 0 64) (p1 : ∀ b j, ¬ (b = 0 ∧ j = 3) → I1 b j = I b j) (q1 : I1 0 3 = I 0 3 + 1) (hk : (k : Int) = I 0 3) (p : ∀ b j, ¬ (b = 10 ∧ j = k) → I' b j = I1 b j) (q : I' 10 k = -1) : gr_MQ I9 I' := by
  have r9 : ∀ b : Nat, ¬ b = 10 → ¬ b = 0 → ∀ i, I' b i = I b i := fun b a1 a2 i => (p b i (fun q => a1 q.1)).trans (p1 b i (fun q => a2 q.1))
  have e1 : I' 0 64 = I 0 64 := (p 0 64 (fun q => absurd q.1 (by decide))).trans (p1 _ _ (by decide))
  have e2 := p 0 3 (fun q => absurd q.1 (by decide))
  have e3 : I' 0 99 = I 0 99 := (p 0 99 (fun q => absurd q.1 (by decide))).trans (p1 _ _ (by decide))
  refine ⟨⟨by have := h.1.1; omega, gr_TS9_tr h.1.2 (gr_TS9_fr (r9 _ (by decide) (by decide)) (r9 _ (by decide) (by decide)) (r9 _ (by decide) (by decide)) (r9 _ (by decide) (by decide))) h.1.1⟩, fun f hf h0 => ?_⟩
  by_cases c : f = k
  · subst c
    omega
  · have e4 : I' 10 f = I 10 f := (p 10 f (fun q => c q.2)).trans (p1 _ _ (fun q => absurd q.1 (by decide)))
    rw [e4] at h0
    obtain ⟨i, a, b⟩ := h.2 f (by omega) h0
    exact ⟨i, by omega, by rw [r9 _ (by decide) (by decide)]; exact b⟩
def gr_FG (I I' : gr_I) (k : Int) : Prop := (∀ j : Nat, (j : Int) < k → I' 10 (Int.toNat (I 60 j)) = -1) ∧ ∀ f : Nat, I' 10 f = I 10 f ∨ I' 10 f = -1
def gr_FQ (I I' : gr_I) : Prop := ∀ f : Nat, I' 10 f = I 10 f
theorem gr_FG_0 {I I' : gr_I} (h : gr_FQ I I') : gr_FG I I' 0 := ⟨fun j hj => by omega, fun f => Or.inl (h f)⟩
theorem gr_FG_nx {I I1 I' : gr_I} {k : Int} {j : Nat} (h : gr_FG I I1 k) (hk : 0 ≤ k) (p : ∀ b i, ¬ (b = 10 ∧ i = j) → I' b i = I1 b i) (q : I' 10 j = -1) (hj : j = Int.toNat (I 60 (Int.toNat k))) : gr_FG I I' (k + 1) := ⟨fun i hi => by
  by_cases c : Int.toNat (I 60 i) = j
  · rw [c]
    exact q
  · rw [p _ _ (fun z => c z.2)]
    by_cases e : (i : Int) < k
    · exact h.1 i e
    · have e9 : i = Int.toNat k := by omega
      rw [e9] at c
      exact absurd hj.symm c, fun f => by
  by_cases c : f = j
  · rw [c]
    exact Or.inr q
  · rw [p _ _ (fun z => c z.2)]
    exact h.2 f⟩
theorem gr_FG_m {I I' : gr_I} {k m : Int} (h : gr_FG I I' k) (hm : m ≤ k) : gr_FG I I' m := ⟨fun j hj => h.1 j (by omega), h.2⟩
theorem gr_FM_back {I9 I1 I2 I3 : gr_I} (h1 : gr_FM I1) (mq : gr_MQ I9 I1) (fg : gr_FG I1 I2 (I1 0 99)) (h3 : ∀ k, I3 10 k = I2 10 k) (r1 : ∀ k, I3 55 k = I1 55 k) (e1 : I3 0 64 = I9 0 64) (e2 : I3 0 3 ≤ I1 0 3) : gr_FM I3 := fun f hf h0 => by
  rw [h3] at h0 ⊢
  rcases fg.2 f with c | c
  · rw [c] at h0 ⊢
    obtain ⟨a, b⟩ := h1 f (by omega) h0
    refine ⟨?_, ?_⟩
    · by_cases d : I9 0 64 ≤ I1 10 f
      · exfalso
        obtain ⟨j, j1, j2⟩ := mq.2 f (by omega) d
        have := fg.1 j j1
        rw [j2, show Int.toNat (f : Int) = f from by omega, c] at this
        omega
      · omega
    · rcases b with b | b
      · exact Or.inl b
      · refine Or.inr ?_
        rw [r1, r1]
        exact b
  · omega
theorem gr_TO_back {I9 I1 I3 : gr_I} (h9 : gr_TO I9) (tm : gr_TM I9) (hI : gr_Inv I9) (g : gr_TS9 I9 I1) (r1 : ∀ k, I3 55 k = I1 55 k) (r2 : ∀ k, I3 52 k = I1 52 k) (r3 : ∀ k, I3 53 k = I1 53 k) (r4 : ∀ k, I3 54 k = I1 54 k) (fa : ∀ f : Nat, (f : Int) < I9 0 3 → I3 6 f = I9 6 f) (e1 : I3 0 64 = I9 0 64) (e2 : I3 0 3 = I9 0 3) : gr_TO I3 := fun n hn => by
  have gn := g n (by omega)
  obtain ⟨a, b, c, d, e⟩ := h9 n (by omega)
  have t := tm n (by omega)
  have m1 := (show 0 ≤ I9 53 n ∧ I9 53 n ≤ 1999 from (hI 53 n).1)
  have m2 := (show 0 ≤ I9 54 n ∧ I9 54 n ≤ 1999 from (hI 54 n).1)
  have s1 : I3 55 n = I9 55 n := (r1 n).trans gn.1.1
  have s2 : I3 55 (5000 + n) = I9 55 (5000 + n) := (r1 _).trans gn.1.2
  have s3 : I3 52 n = I9 52 n := (r2 n).trans gn.2.1
  have s4 : I3 53 n = I9 53 n := (r3 n).trans gn.2.2.1
  have s5 : I3 54 n = I9 54 n := (r4 n).trans gn.2.2.2
  rw [s1, s2, s3, s4, s5, fa _ (by omega), e2]
  refine ⟨a, b, c, fun q => ?_, fun q => ?_⟩
  · have l := t.1 q
    have gc := g (Int.toNat (I9 53 n)) (by omega)
    rw [(r1 _).trans gc.1.1, (r1 _).trans gc.1.2]
    exact d q
  · have l := t.2 q
    have gc := g (Int.toNat (I9 53 n)) (by omega)
    have gd := g (Int.toNat (I9 54 n)) (by omega)
    rw [(r1 (Int.toNat (I9 53 n))).trans gc.1.1, (r1 (5000 + Int.toNat (I9 53 n))).trans gc.1.2, (r1 (Int.toNat (I9 54 n))).trans gd.1.1, (r1 (5000 + Int.toNat (I9 54 n))).trans gd.1.2]
    exact e q
set_option maxHeartbeats 4000000 in
set_option maxRecDepth 100000 in
theorem r_fun_v {ws0 : List Cond} {tb : String → gz_T} (hws : ∀ w ∈ gr_ws, w ∈ ws0) (htb : tb RX13 = gr_T) (ext : gz_Sh) (I9 : gr_I) (I : gr_I) (J : gr_J) (hI : gr_Inv I)   (x0 : I 0 71 = 5 ∨ I 0 73 ≤ I 0 69) (x1 : I 0 72 ≤ I 0 69) (x2 : I 0 71 = 0 ∨ (I 0 72 < I 0 73 ∧ I 0 72 < I 0 69)) (x3 : I 0 71 = 3 → 2 ≤ I 0 73 - I 0 72 ∧ I 0 73 - I 0 72 ≤ 14) (x4 : I 0 72 ≤ I 0 73) (x5 : 0 ≤ I9 0 64) (KGR_I : gr_GR I) (KST_I : gr_ST I9 I) (KTO_I : gr_TO I) (KFM_I : gr_FM I) (KMQ_I : gr_MQ I9 I) : ∃ r h', gz_Ev ws0 tb 12 (yX13_fun, cX13_fun, 6, (some .boolean)) [.inr (.inr (some 0))] (gr_sh ++ ext) (gr_h I J) r (gr_sh ++ ext) h' 0 0 ∧ (∃ (I' : gr_I) (J' : gr_J), h' = gr_h I' J' ∧ gr_Inv I' ∧ gr_fr [3, 71, 72, 73, 74, 75, 76, 77, 101] [3, 6, 7, 8, 9, 10, 61] I I' ∧ gr_fj [3, 71, 72, 73, 74, 75, 76, 77, 101] [3, 6, 7, 8, 9, 10, 61] J J' ∧ gr_GR I' ∧ gr_ST I9 I' ∧ gr_TO I' ∧ gr_FM I' ∧ gr_MQ I9 I' ∧ (∃ z : Int, r = some (.inl z) ∧ 0 ≤ z ∧ z ≤ 1 ∧ (I' 0 71 = 5 ∨ I' 0 73 ≤ I' 0 69) ∧ (I' 0 72 ≤ I' 0 69) ∧ (I' 0 71 = 0 ∨ (I' 0 72 < I' 0 73 ∧ I' 0 72 < I' 0 69)) ∧ (I' 0 71 = 3 → 2 ≤ I' 0 73 - I' 0 72 ∧ I' 0 73 - I' 0 72 ≤ 14) ∧ (I' 0 72 ≤ I' 0 73) ∧ (I' 0 69 = I 0 69) ∧ (I 0 73 ≤ I' 0 73) ∧ (I 0 72 ≤ I' 0 72))) := by
  have FI : gr_fr [3, 71, 72, 73, 74, 75, 76, 77, 101] [3, 6, 7, 8, 9, 10, 61] I I := fun _ _ _ => rfl
  have FJ : gr_fj [3, 71, 72, 73, 74, 75, 76, 77, 101] [3, 6, 7, 8, 9, 10, 61] J J := fun _ _ _ => rfl
  have hD : gv_D (gr_E ws0 tb 11 (yX13_fun, cX13_fun, 6, (some .boolean)) kX13_fun) := gq_ok oX13_fun
  refine gr_ev (d := 11) (l := kX13_fun) (Po := fun r h' => (∃ (I' : gr_I) (J' : gr_J), h' = gr_h I' J' ∧ gr_Inv I' ∧ gr_fr [3, 71, 72, 73, 74, 75, 76, 77, 101] [3, 6, 7, 8, 9, 10, 61] I I' ∧ gr_fj [3, 71, 72, 73, 74, 75, 76, 77, 101] [3, 6, 7, 8, 9, 10, 61] J J' ∧ gr_GR I' ∧ gr_ST I9 I' ∧ gr_TO I' ∧ gr_FM I' ∧ gr_MQ I9 I' ∧ (∃ z : Int, r = some (.inl z) ∧ 0 ≤ z ∧ z ≤ 1 ∧ (I' 0 71 = 5 ∨ I' 0 73 ≤ I' 0 69) ∧ (I' 0 72 ≤ I' 0 69) ∧ (I' 0 71 = 0 ∨ (I' 0 72 < I' 0 73 ∧ I' 0 72 < I' 0 69)) ∧ (I' 0 71 = 3 → 2 ≤ I' 0 73 - I' 0 72 ∧ I' 0 73 - I' 0 72 ≤ 14) ∧ (I' 0 72 ≤ I' 0 73) ∧ (I' 0 69 = I 0 69) ∧ (I 0 73 ≤ I' 0 73) ∧ (I 0 72 ≤ I' 0 72)))) htb rfl (Nat.le_of_ble_eq_true rfl) ?_
  have f1 := (show 0 ≤ I 0 71 ∧ I 0 71 ≤ 5 from (hI 0 71).1)
  have f2 := (show 0 ≤ I 0 72 ∧ I 0 72 ≤ 1000 from (hI 0 72).1)
  have f3 := (show 0 ≤ I 0 73 ∧ I 0 73 ≤ 1001 from (hI 0 73).1)
  have f4 := (show 0 ≤ I 0 69 ∧ I 0 69 ≤ 1000 from (hI 0 69).1)
  have f5 := (show 0 ≤ I 0 3 ∧ I 0 3 ≤ 96 from (hI 0 3).1)
  have L9 : ∀ (I6 : gr_I) (J7 : gr_J) , gr_Inv I6 → gr_fr [3, 71, 72, 73, 74, 75, 76, 77, 101] [3, 6, 7, 8, 9, 10, 61] I I6 → gr_fj [3, 71, 72, 73, 74, 75, 76, 77, 101] [3, 6, 7, 8, 9, 10, 61] J J7 → gr_GR I6 → gr_ST I9 I6 → gr_TO I6 → gr_FM I6 → gr_MQ I9 I6 → ((I6 0 71 = 1) ∧ (I6 0 71 = 5 ∨ I6 0 73 ≤ I6 0 69) ∧ (I6 0 72 ≤ I6 0 69) ∧ (I6 0 71 = 0 ∨ (I6 0 72 < I6 0 73 ∧ I6 0 72 < I6 0 69)) ∧ (I6 0 71 = 3 → 2 ≤ I6 0 73 - I6 0 72 ∧ I6 0 73 - I6 0 72 ≤ 14) ∧ (I6 0 72 ≤ I6 0 73) ∧ (I6 0 69 = I 0 69) ∧ (I 0 73 ≤ I6 0 73) ∧ (I 0 72 ≤ I6 0 72)) → gv_X (gr_E ws0 tb 11 (yX13_fun, cX13_fun, 6, (some .boolean)) kX13_fun) (gv_Q cX13_fun (some .boolean) (gr_sh ++ ext) (fun r h' => (∃ (I' : gr_I) (J' : gr_J), h' = gr_h I' J' ∧ gr_Inv I' ∧ gr_fr [3, 71, 72, 73, 74, 75, 76, 77, 101] [3, 6, 7, 8, 9, 10, 61] I I' ∧ gr_fj [3, 71, 72, 73, 74, 75, 76, 77, 101] [3, 6, 7, 8, 9, 10, 61] J J' ∧ gr_GR I' ∧ gr_ST I9 I' ∧ gr_TO I' ∧ gr_FM I' ∧ gr_MQ I9 I' ∧ (∃ z : Int, r = some (.inl z) ∧ 0 ≤ z ∧ z ≤ 1 ∧ (I' 0 71 = 5 ∨ I' 0 73 ≤ I' 0 69) ∧ (I' 0 72 ≤ I' 0 69) ∧ (I' 0 71 = 0 ∨ (I' 0 72 < I' 0 73 ∧ I' 0 72 < I' 0 69)) ∧ (I' 0 71 = 3 → 2 ≤ I' 0 73 - I' 0 72 ∧ I' 0 73 - I' 0 72 ≤ 14) ∧ (I' 0 72 ≤ I' 0 73) ∧ (I' 0 69 = I 0 69) ∧ (I 0 73 ≤ I' 0 73) ∧ (I 0 72 ≤ I' 0 72))))) (9, [(0, .inr (.inr (some 0)))], [], gr_sh ++ ext, gr_h I6 J7) := by
    intro I6 J7 hI6 FI6 FJ7 KGR_I6 KST_I6 KTO_I6 KFM_I6 KMQ_I6 m_8
    obtain ⟨e0_8, e1_8, e2_8, e3_8, e4_8, e5_8, e6_8, e7_8, e8_8⟩ := m_8
    have f9 := (show 0 ≤ I6 0 71 ∧ I6 0 71 ≤ 5 from (hI6 0 71).1)
    have f10 := (show 0 ≤ I6 0 72 ∧ I6 0 72 ≤ 1000 from (hI6 0 72).1)
    have f11 := (show 0 ≤ I6 0 73 ∧ I6 0 73 ≤ 1001 from (hI6 0 73).1)
    have f12 := (show 0 ≤ I6 0 69 ∧ I6 0 69 ≤ 1000 from (hI6 0 69).1)
    have f13 := (show 0 ≤ I6 0 3 ∧ I6 0 3 ≤ 96 from (hI6 0 3).1)
    have L51 : ∀ (I14 : gr_I) (J15 : gr_J) (v1_16 : Int64), gr_Inv I14 → gr_fr [3, 71, 72, 73, 74, 75, 76, 77, 101] [3, 6, 7, 8, 9, 10, 61] I I14 → gr_fj [3, 71, 72, 73, 74, 75, 76, 77, 101] [3, 6, 7, 8, 9, 10, 61] J J15 → gr_GR I14 → gr_ST I9 I14 → gr_TO I14 → gr_FM I14 → gr_MQ I9 I14 → ((I14 0 71 = 5 ∨ I14 0 73 ≤ I14 0 69) ∧ (I14 0 72 ≤ I14 0 69) ∧ (I14 0 71 = 0 ∨ (I14 0 72 < I14 0 73 ∧ I14 0 72 < I14 0 69)) ∧ (I14 0 71 = 3 → 2 ≤ I14 0 73 - I14 0 72 ∧ I14 0 73 - I14 0 72 ≤ 14) ∧ (I14 0 72 ≤ I14 0 73) ∧ (I14 0 69 = I 0 69) ∧ (I 0 73 ≤ I14 0 73) ∧ (I 0 72 ≤ I14 0 72)) → gv_X (gr_E ws0 tb 11 (yX13_fun, cX13_fun, 6, (some .boolean)) kX13_fun) (gv_Q cX13_fun (some .boolean) (gr_sh ++ ext) (fun r h' => (∃ (I' : gr_I) (J' : gr_J), h' = gr_h I' J' ∧ gr_Inv I' ∧ gr_fr [3, 71, 72, 73, 74, 75, 76, 77, 101] [3, 6, 7, 8, 9, 10, 61] I I' ∧ gr_fj [3, 71, 72, 73, 74, 75, 76, 77, 101] [3, 6, 7, 8, 9, 10, 61] J J' ∧ gr_GR I' ∧ gr_ST I9 I' ∧ gr_TO I' ∧ gr_FM I' ∧ gr_MQ I9 I' ∧ (∃ z : Int, r = some (.inl z) ∧ 0 ≤ z ∧ z ≤ 1 ∧ (I' 0 71 = 5 ∨ I' 0 73 ≤ I' 0 69) ∧ (I' 0 72 ≤ I' 0 69) ∧ (I' 0 71 = 0 ∨ (I' 0 72 < I' 0 73 ∧ I' 0 72 < I' 0 69)) ∧ (I' 0 71 = 3 → 2 ≤ I' 0 73 - I' 0 72 ∧ I' 0 73 - I' 0 72 ≤ 14) ∧ (I' 0 72 ≤ I' 0 73) ∧ (I' 0 69 = I 0 69) ∧ (I 0 73 ≤ I' 0 73) ∧ (I 0 72 ≤ I' 0 72))))) (51, [(0, .inr (.inr (some 0))), (1, .inr (.inl v1_16))], [], gr_sh ++ ext, gr_h I14 J15) := by
      intro I14 J15 v1_16 hI14 FI14 FJ15 KGR_I14 KST_I14 KTO_I14 KFM_I14 KMQ_I14 m_16
      clear e0_8 e1_8 e2_8 e3_8 e4_8 e5_8 e6_8 e7_8 e8_8 f9 f10 f11 f12 f13
      obtain ⟨e0_16, e1_16, e2_16, e3_16, e4_16, e5_16, e6_16, e7_16⟩ := m_16
      have f17 := (show 0 ≤ I14 0 71 ∧ I14 0 71 ≤ 5 from (hI14 0 71).1)
      have f18 := (show 0 ≤ I14 0 72 ∧ I14 0 72 ≤ 1000 from (hI14 0 72).1)
      have f19 := (show 0 ≤ I14 0 73 ∧ I14 0 73 ≤ 1001 from (hI14 0 73).1)
      have f20 := (show 0 ≤ I14 0 69 ∧ I14 0 69 ≤ 1000 from (hI14 0 69).1)
      have f21 := (show 0 ≤ I14 0 3 ∧ I14 0 3 ≤ 96 from (hI14 0 3).1)
      have L53 : ∀ (n : Nat) (I22 : gr_I) (J23 : gr_J) (v3_24 : Int), (1001 - I22 0 72).toNat < n → gr_Inv I22 → gr_fr [3, 71, 72, 73, 74, 75, 76, 77, 101] [3, 6, 7, 8, 9, 10, 61] I I22 → gr_fj [3, 71, 72, 73, 74, 75, 76, 77, 101] [3, 6, 7, 8, 9, 10, 61] J J23 → gr_GR I22 → gr_ST I9 I22 → gr_TO I22 → gr_FM I22 → gr_MQ I9 I22 → ((0 ≤ v3_24 ∧ v3_24 ≤ 4) ∧ (I22 0 71 = 5 ∨ I22 0 73 ≤ I22 0 69) ∧ (I22 0 72 ≤ I22 0 69) ∧ (I22 0 71 = 0 ∨ (I22 0 72 < I22 0 73 ∧ I22 0 72 < I22 0 69)) ∧ (I22 0 71 = 3 → 2 ≤ I22 0 73 - I22 0 72 ∧ I22 0 73 - I22 0 72 ≤ 14) ∧ (I22 0 72 ≤ I22 0 73) ∧ (I22 0 69 = I 0 69) ∧ (I 0 73 ≤ I22 0 73) ∧ (I 0 72 ≤ I22 0 72)) → gv_X (gr_E ws0 tb 11 (yX13_fun, cX13_fun, 6, (some .boolean)) kX13_fun) (gv_Q cX13_fun (some .boolean) (gr_sh ++ ext) (fun r h' => (∃ (I' : gr_I) (J' : gr_J), h' = gr_h I' J' ∧ gr_Inv I' ∧ gr_fr [3, 71, 72, 73, 74, 75, 76, 77, 101] [3, 6, 7, 8, 9, 10, 61] I I' ∧ gr_fj [3, 71, 72, 73, 74, 75, 76, 77, 101] [3, 6, 7, 8, 9, 10, 61] J J' ∧ gr_GR I' ∧ gr_ST I9 I' ∧ gr_TO I' ∧ gr_FM I' ∧ gr_MQ I9 I' ∧ (∃ z : Int, r = some (.inl z) ∧ 0 ≤ z ∧ z ≤ 1 ∧ (I' 0 71 = 5 ∨ I' 0 73 ≤ I' 0 69) ∧ (I' 0 72 ≤ I' 0 69) ∧ (I' 0 71 = 0 ∨ (I' 0 72 < I' 0 73 ∧ I' 0 72 < I' 0 69)) ∧ (I' 0 71 = 3 → 2 ≤ I' 0 73 - I' 0 72 ∧ I' 0 73 - I' 0 72 ≤ 14) ∧ (I' 0 72 ≤ I' 0 73) ∧ (I' 0 69 = I 0 69) ∧ (I 0 73 ≤ I' 0 73) ∧ (I 0 72 ≤ I' 0 72))))) (53, [(0, .inr (.inr (some 0))), (1, .inr (.inl v1_16)), (3, .inl v3_24)], [], gr_sh ++ ext, gr_h I22 J23) := by
        intro n
        induction n with
        | zero => intro I22 J23 v3_24 hn; omega
        | succ n ih53 =>
          intro I22 J23 v3_24 hn hI22 FI22 FJ23 KGR_I22 KST_I22 KTO_I22 KFM_I22 KMQ_I22 m_24
          clear e0_16 e1_16 e2_16 e3_16 e4_16 e5_16 e6_16 e7_16 f17 f18 f19 f20 f21
          obtain ⟨hv3_24, e0_24, e1_24, e2_24, e3_24, e4_24, e5_24, e6_24, e7_24⟩ := m_24
          have f25 := (show 0 ≤ I22 0 71 ∧ I22 0 71 ≤ 5 from (hI22 0 71).1)
          have f26 := (show 0 ≤ I22 0 72 ∧ I22 0 72 ≤ 1000 from (hI22 0 72).1)
          have f27 := (show 0 ≤ I22 0 73 ∧ I22 0 73 ≤ 1001 from (hI22 0 73).1)
          have f28 := (show 0 ≤ I22 0 69 ∧ I22 0 69 ≤ 1000 from (hI22 0 69).1)
          have f29 := (show 0 ≤ I22 0 3 ∧ I22 0 3 ≤ 96 from (hI22 0 3).1)
          have L89 : ((I22 0 71 = 5 ∨ I22 0 73 ≤ I22 0 69) ∧ (I22 0 72 ≤ I22 0 69) ∧ (I22 0 71 = 0 ∨ (I22 0 72 < I22 0 73 ∧ I22 0 72 < I22 0 69)) ∧ (I22 0 71 = 3 → 2 ≤ I22 0 73 - I22 0 72 ∧ I22 0 73 - I22 0 72 ≤ 14) ∧ (I22 0 72 ≤ I22 0 73) ∧ (I22 0 69 = I 0 69) ∧ (I 0 73 ≤ I22 0 73) ∧ (I 0 72 ≤ I22 0 72)) → gv_X (gr_E ws0 tb 11 (yX13_fun, cX13_fun, 6, (some .boolean)) kX13_fun) (gv_Q cX13_fun (some .boolean) (gr_sh ++ ext) (fun r h' => (∃ (I' : gr_I) (J' : gr_J), h' = gr_h I' J' ∧ gr_Inv I' ∧ gr_fr [3, 71, 72, 73, 74, 75, 76, 77, 101] [3, 6, 7, 8, 9, 10, 61] I I' ∧ gr_fj [3, 71, 72, 73, 74, 75, 76, 77, 101] [3, 6, 7, 8, 9, 10, 61] J J' ∧ gr_GR I' ∧ gr_ST I9 I' ∧ gr_TO I' ∧ gr_FM I' ∧ gr_MQ I9 I' ∧ (∃ z : Int, r = some (.inl z) ∧ 0 ≤ z ∧ z ≤ 1 ∧ (I' 0 71 = 5 ∨ I' 0 73 ≤ I' 0 69) ∧ (I' 0 72 ≤ I' 0 69) ∧ (I' 0 71 = 0 ∨ (I' 0 72 < I' 0 73 ∧ I' 0 72 < I' 0 69)) ∧ (I' 0 71 = 3 → 2 ≤ I' 0 73 - I' 0 72 ∧ I' 0 73 - I' 0 72 ≤ 14) ∧ (I' 0 72 ≤ I' 0 73) ∧ (I' 0 69 = I 0 69) ∧ (I 0 73 ≤ I' 0 73) ∧ (I 0 72 ≤ I' 0 72))))) (89, [(0, .inr (.inr (some 0)))], [], gr_sh ++ ext, gr_h I22 J23) := by
            intro m_30
            obtain ⟨e0_30, e1_30, e2_30, e3_30, e4_30, e5_30, e6_30, e7_30⟩ := m_30
            have f31 := (show 0 ≤ I22 0 71 ∧ I22 0 71 ≤ 5 from (hI22 0 71).1)
            have f32 := (show 0 ≤ I22 0 72 ∧ I22 0 72 ≤ 1000 from (hI22 0 72).1)
            have f33 := (show 0 ≤ I22 0 73 ∧ I22 0 73 ≤ 1001 from (hI22 0 73).1)
            have f34 := (show 0 ≤ I22 0 69 ∧ I22 0 69 ≤ 1000 from (hI22 0 69).1)
            have f35 := (show 0 ≤ I22 0 3 ∧ I22 0 3 ≤ 96 from (hI22 0 3).1)
            refine gv_run 2 true hD (pc' := 91) (lv' := [(0, .inr (.inr (some 0)))]) (st' := [.inl 5, .inr (.inr (some 0))]) (h' := gr_h I22 J23) (C := ((True ∧ True) ∧ True)) rfl ⟨⟨trivial, trivial⟩, trivial⟩ ?_
            obtain ⟨r36, h36, E36, P36⟩ := r_no_ (ws0 := ws0) (tb := tb) hws htb ext I22 J23 hI22 5 ⟨by omega, by omega⟩ 
            obtain ⟨I37, J38, rfl, hI37, g36, k36, ⟨z36, rfl, q36⟩⟩ := P36
            have FI37 := gr_frt FI22 g36 rfl rfl
            have FJ38 := gr_fjt FJ23 k36 rfl rfl
            have t39 := g36 0 71 rfl
            have t40 := g36 0 72 rfl
            have t41 := g36 0 73 rfl
            have t42 := g36 0 69 rfl
            have t43 := g36 0 3 rfl
            have f44 := (show 0 ≤ I37 0 71 ∧ I37 0 71 ≤ 5 from (hI37 0 71).1)
            have f45 := (show 0 ≤ I37 0 72 ∧ I37 0 72 ≤ 1000 from (hI37 0 72).1)
            have f46 := (show 0 ≤ I37 0 73 ∧ I37 0 73 ≤ 1001 from (hI37 0 73).1)
            have f47 := (show 0 ≤ I37 0 69 ∧ I37 0 69 ≤ 1000 from (hI37 0 69).1)
            have f48 := (show 0 ≤ I37 0 3 ∧ I37 0 3 ≤ 96 from (hI37 0 3).1)
            have KGR_I37 := gr_GR_fr KGR_I22 (fun k => g36 19 k rfl) (fun k => g36 18 k rfl) (fun k => g36 36 k rfl) (fun k => g36 41 k rfl) (fun k => g36 42 k rfl) (fun k => g36 43 k rfl) (fun k => g36 45 k rfl) (fun k => g36 46 k rfl) (fun k => g36 47 k rfl) (fun k => g36 6 k rfl) (fun k => g36 7 k rfl) (fun k => g36 8 k rfl) (g36 0 3 rfl)
            have KST_I37 := gr_ST_fr KST_I22 (fun k => g36 6 k rfl) (fun k => g36 19 k rfl) (fun k => g36 18 k rfl) (fun k => g36 41 k rfl) (fun k => g36 36 k rfl) (g36 0 3 rfl)
            have KTO_I37 := gr_TO_fr KTO_I22 (fun k => g36 52 k rfl) (fun k => g36 53 k rfl) (fun k => g36 54 k rfl) (fun k => g36 55 k rfl) (fun k => g36 6 k rfl) (g36 0 64 rfl) (g36 0 3 rfl)
            have KFM_I37 := gr_FM_fr KFM_I22 (fun k => g36 10 k rfl) (fun k => g36 55 k rfl) (fun k => g36 52 k rfl) (fun k => g36 53 k rfl) (fun k => g36 54 k rfl) (g36 0 64 rfl) (g36 0 3 rfl)
            have KMQ_I37 := gr_MQ_fr KMQ_I22 (fun k => g36 10 k rfl) (fun k => g36 55 k rfl) (fun k => g36 52 k rfl) (fun k => g36 53 k rfl) (fun k => g36 54 k rfl) (fun k => g36 60 k rfl) (g36 0 64 rfl) (g36 0 3 rfl) (g36 0 99 rfl)
            refine gv_callV hD rfl (As := [.inl 5]) (st := []) rfl (by decide) rfl rfl (gr_lV hws rfl) (Nat.le_of_ble_eq_true rfl) (gz_Ev_mono (d := 2) (by decide) E36) ?_
            show gv_X _ _ (94, [(0, .inr (.inr (some 0)))], [.inl z36], gr_sh ++ ext, gr_h I37 J38)
            exact gv_zret hD rfl (by omega) ⟨I37, J38, rfl, hI37, FI37, FJ38, KGR_I37, KST_I37, KTO_I37, KFM_I37, KMQ_I37, ⟨_, rfl, by omega⟩⟩
          have L129 : ∀ (I49 : gr_I) (J50 : gr_J) , gr_Inv I49 → gr_fr [3, 71, 72, 73, 74, 75, 76, 77, 101] [3, 6, 7, 8, 9, 10, 61] I I49 → gr_fj [3, 71, 72, 73, 74, 75, 76, 77, 101] [3, 6, 7, 8, 9, 10, 61] J J50 → gr_GR I49 → gr_ST I9 I49 → gr_TO I49 → gr_FM I49 → gr_MQ I9 I49 → ((I49 0 71 = 5 ∨ I49 0 73 ≤ I49 0 69) ∧ (I49 0 72 ≤ I49 0 69) ∧ (I49 0 71 = 0 ∨ (I49 0 72 < I49 0 73 ∧ I49 0 72 < I49 0 69)) ∧ (I49 0 71 = 3 → 2 ≤ I49 0 73 - I49 0 72 ∧ I49 0 73 - I49 0 72 ≤ 14) ∧ (I49 0 72 ≤ I49 0 73) ∧ (I49 0 69 = I 0 69) ∧ (I 0 73 ≤ I49 0 73) ∧ (I 0 72 ≤ I49 0 72)) → gv_X (gr_E ws0 tb 11 (yX13_fun, cX13_fun, 6, (some .boolean)) kX13_fun) (gv_Q cX13_fun (some .boolean) (gr_sh ++ ext) (fun r h' => (∃ (I' : gr_I) (J' : gr_J), h' = gr_h I' J' ∧ gr_Inv I' ∧ gr_fr [3, 71, 72, 73, 74, 75, 76, 77, 101] [3, 6, 7, 8, 9, 10, 61] I I' ∧ gr_fj [3, 71, 72, 73, 74, 75, 76, 77, 101] [3, 6, 7, 8, 9, 10, 61] J J' ∧ gr_GR I' ∧ gr_ST I9 I' ∧ gr_TO I' ∧ gr_FM I' ∧ gr_MQ I9 I' ∧ (∃ z : Int, r = some (.inl z) ∧ 0 ≤ z ∧ z ≤ 1 ∧ (I' 0 71 = 5 ∨ I' 0 73 ≤ I' 0 69) ∧ (I' 0 72 ≤ I' 0 69) ∧ (I' 0 71 = 0 ∨ (I' 0 72 < I' 0 73 ∧ I' 0 72 < I' 0 69)) ∧ (I' 0 71 = 3 → 2 ≤ I' 0 73 - I' 0 72 ∧ I' 0 73 - I' 0 72 ≤ 14) ∧ (I' 0 72 ≤ I' 0 73) ∧ (I' 0 69 = I 0 69) ∧ (I 0 73 ≤ I' 0 73) ∧ (I 0 72 ≤ I' 0 72))))) (129, [], [], gr_sh ++ ext, gr_h I49 J50) := by
            intro I49 J50 hI49 FI49 FJ50 KGR_I49 KST_I49 KTO_I49 KFM_I49 KMQ_I49 m_51
            clear hv3_24 e0_24 e1_24 e2_24 e3_24 e4_24 e5_24 e6_24 e7_24 f25 f26 f27 f28 f29
            obtain ⟨e0_51, e1_51, e2_51, e3_51, e4_51, e5_51, e6_51, e7_51⟩ := m_51
            have f52 := (show 0 ≤ I49 0 71 ∧ I49 0 71 ≤ 5 from (hI49 0 71).1)
            have f53 := (show 0 ≤ I49 0 72 ∧ I49 0 72 ≤ 1000 from (hI49 0 72).1)
            have f54 := (show 0 ≤ I49 0 73 ∧ I49 0 73 ≤ 1001 from (hI49 0 73).1)
            have f55 := (show 0 ≤ I49 0 69 ∧ I49 0 69 ≤ 1000 from (hI49 0 69).1)
            have f56 := (show 0 ≤ I49 0 3 ∧ I49 0 3 ≤ 96 from (hI49 0 3).1)
            refine gv_run 1 true hD (pc' := 130) (lv' := []) (st' := [.inl 0]) (h' := gr_h I49 J50) (C := (True ∧ True)) rfl ⟨trivial, trivial⟩ ?_
            exact gv_zret hD rfl (by omega) ⟨I49, J50, rfl, hI49, FI49, FJ50, KGR_I49, KST_I49, KTO_I49, KFM_I49, KMQ_I49, ⟨_, rfl, by omega⟩⟩
          have L122 : ∀ (I57 : gr_I) (J58 : gr_J) , gr_Inv I57 → gr_fr [3, 71, 72, 73, 74, 75, 76, 77, 101] [3, 6, 7, 8, 9, 10, 61] I I57 → gr_fj [3, 71, 72, 73, 74, 75, 76, 77, 101] [3, 6, 7, 8, 9, 10, 61] J J58 → gr_GR I57 → gr_ST I9 I57 → gr_TO I57 → gr_FM I57 → gr_MQ I9 I57 → ((0 ≤ v3_24 ∧ v3_24 ≤ 4) ∧ (I57 0 71 = 5 ∨ I57 0 73 ≤ I57 0 69) ∧ (I57 0 72 ≤ I57 0 69) ∧ (I57 0 71 = 0 ∨ (I57 0 72 < I57 0 73 ∧ I57 0 72 < I57 0 69)) ∧ (I57 0 71 = 3 → 2 ≤ I57 0 73 - I57 0 72 ∧ I57 0 73 - I57 0 72 ≤ 14) ∧ (I57 0 72 ≤ I57 0 73) ∧ (I57 0 69 = I 0 69) ∧ (I 0 73 ≤ I57 0 73) ∧ (I 0 72 ≤ I57 0 72)) → gv_X (gr_E ws0 tb 11 (yX13_fun, cX13_fun, 6, (some .boolean)) kX13_fun) (gv_Q cX13_fun (some .boolean) (gr_sh ++ ext) (fun r h' => (∃ (I' : gr_I) (J' : gr_J), h' = gr_h I' J' ∧ gr_Inv I' ∧ gr_fr [3, 71, 72, 73, 74, 75, 76, 77, 101] [3, 6, 7, 8, 9, 10, 61] I I' ∧ gr_fj [3, 71, 72, 73, 74, 75, 76, 77, 101] [3, 6, 7, 8, 9, 10, 61] J J' ∧ gr_GR I' ∧ gr_ST I9 I' ∧ gr_TO I' ∧ gr_FM I' ∧ gr_MQ I9 I' ∧ (∃ z : Int, r = some (.inl z) ∧ 0 ≤ z ∧ z ≤ 1 ∧ (I' 0 71 = 5 ∨ I' 0 73 ≤ I' 0 69) ∧ (I' 0 72 ≤ I' 0 69) ∧ (I' 0 71 = 0 ∨ (I' 0 72 < I' 0 73 ∧ I' 0 72 < I' 0 69)) ∧ (I' 0 71 = 3 → 2 ≤ I' 0 73 - I' 0 72 ∧ I' 0 73 - I' 0 72 ≤ 14) ∧ (I' 0 72 ≤ I' 0 73) ∧ (I' 0 69 = I 0 69) ∧ (I 0 73 ≤ I' 0 73) ∧ (I 0 72 ≤ I' 0 72))))) (122, [(0, .inr (.inr (some 0))), (1, .inr (.inl v1_16)), (3, .inl v3_24)], [], gr_sh ++ ext, gr_h I57 J58) := by
            intro I57 J58 hI57 FI57 FJ58 KGR_I57 KST_I57 KTO_I57 KFM_I57 KMQ_I57 m_59
            clear hv3_24 e0_24 e1_24 e2_24 e3_24 e4_24 e5_24 e6_24 e7_24 f25 f26 f27 f28 f29
            obtain ⟨hv3_24_59, e0_59, e1_59, e2_59, e3_59, e4_59, e5_59, e6_59, e7_59⟩ := m_59
            have f60 := (show 0 ≤ I57 0 71 ∧ I57 0 71 ≤ 5 from (hI57 0 71).1)
            have f61 := (show 0 ≤ I57 0 72 ∧ I57 0 72 ≤ 1000 from (hI57 0 72).1)
            have f62 := (show 0 ≤ I57 0 73 ∧ I57 0 73 ≤ 1001 from (hI57 0 73).1)
            have f63 := (show 0 ≤ I57 0 69 ∧ I57 0 69 ≤ 1000 from (hI57 0 69).1)
            have f64 := (show 0 ≤ I57 0 3 ∧ I57 0 3 ≤ 96 from (hI57 0 3).1)
            have L131 : ∀ (I65 : gr_I) (J66 : gr_J) , gr_Inv I65 → gr_fr [3, 71, 72, 73, 74, 75, 76, 77, 101] [3, 6, 7, 8, 9, 10, 61] I I65 → gr_fj [3, 71, 72, 73, 74, 75, 76, 77, 101] [3, 6, 7, 8, 9, 10, 61] J J66 → gr_GR I65 → gr_ST I9 I65 → gr_TO I65 → gr_FM I65 → gr_MQ I9 I65 → ((0 ≤ v3_24 ∧ v3_24 ≤ 4) ∧ (I65 0 71 = 1) ∧ (I65 0 71 = 5 ∨ I65 0 73 ≤ I65 0 69) ∧ (I65 0 72 ≤ I65 0 69) ∧ (I65 0 71 = 0 ∨ (I65 0 72 < I65 0 73 ∧ I65 0 72 < I65 0 69)) ∧ (I65 0 71 = 3 → 2 ≤ I65 0 73 - I65 0 72 ∧ I65 0 73 - I65 0 72 ≤ 14) ∧ (I65 0 72 ≤ I65 0 73) ∧ (I65 0 69 = I 0 69) ∧ (I 0 73 ≤ I65 0 73) ∧ (I 0 72 ≤ I65 0 72)) → gv_X (gr_E ws0 tb 11 (yX13_fun, cX13_fun, 6, (some .boolean)) kX13_fun) (gv_Q cX13_fun (some .boolean) (gr_sh ++ ext) (fun r h' => (∃ (I' : gr_I) (J' : gr_J), h' = gr_h I' J' ∧ gr_Inv I' ∧ gr_fr [3, 71, 72, 73, 74, 75, 76, 77, 101] [3, 6, 7, 8, 9, 10, 61] I I' ∧ gr_fj [3, 71, 72, 73, 74, 75, 76, 77, 101] [3, 6, 7, 8, 9, 10, 61] J J' ∧ gr_GR I' ∧ gr_ST I9 I' ∧ gr_TO I' ∧ gr_FM I' ∧ gr_MQ I9 I' ∧ (∃ z : Int, r = some (.inl z) ∧ 0 ≤ z ∧ z ≤ 1 ∧ (I' 0 71 = 5 ∨ I' 0 73 ≤ I' 0 69) ∧ (I' 0 72 ≤ I' 0 69) ∧ (I' 0 71 = 0 ∨ (I' 0 72 < I' 0 73 ∧ I' 0 72 < I' 0 69)) ∧ (I' 0 71 = 3 → 2 ≤ I' 0 73 - I' 0 72 ∧ I' 0 73 - I' 0 72 ≤ 14) ∧ (I' 0 72 ≤ I' 0 73) ∧ (I' 0 69 = I 0 69) ∧ (I 0 73 ≤ I' 0 73) ∧ (I 0 72 ≤ I' 0 72))))) (131, [(0, .inr (.inr (some 0))), (1, .inr (.inl v1_16)), (3, .inl v3_24)], [], gr_sh ++ ext, gr_h I65 J66) := by
              intro I65 J66 hI65 FI65 FJ66 KGR_I65 KST_I65 KTO_I65 KFM_I65 KMQ_I65 m_67
              clear hv3_24_59 e0_59 e1_59 e2_59 e3_59 e4_59 e5_59 e6_59 e7_59 f60 f61 f62 f63 f64
              obtain ⟨hv3_24_67, e0_67, e1_67, e2_67, e3_67, e4_67, e5_67, e6_67, e7_67, e8_67⟩ := m_67
              have f68 := (show 0 ≤ I65 0 71 ∧ I65 0 71 ≤ 5 from (hI65 0 71).1)
              have f69 := (show 0 ≤ I65 0 72 ∧ I65 0 72 ≤ 1000 from (hI65 0 72).1)
              have f70 := (show 0 ≤ I65 0 73 ∧ I65 0 73 ≤ 1001 from (hI65 0 73).1)
              have f71 := (show 0 ≤ I65 0 69 ∧ I65 0 69 ≤ 1000 from (hI65 0 69).1)
              have f72 := (show 0 ≤ I65 0 3 ∧ I65 0 3 ≤ 96 from (hI65 0 3).1)
              have L192 : ∀ (I73 : gr_I) (J74 : gr_J) , gr_Inv I73 → gr_fr [3, 71, 72, 73, 74, 75, 76, 77, 101] [3, 6, 7, 8, 9, 10, 61] I I73 → gr_fj [3, 71, 72, 73, 74, 75, 76, 77, 101] [3, 6, 7, 8, 9, 10, 61] J J74 → gr_GR I73 → gr_ST I9 I73 → gr_TO I73 → gr_FM I73 → gr_MQ I9 I73 → ((I73 0 71 = 5 ∨ I73 0 73 ≤ I73 0 69) ∧ (I73 0 72 ≤ I73 0 69) ∧ (I73 0 71 = 0 ∨ (I73 0 72 < I73 0 73 ∧ I73 0 72 < I73 0 69)) ∧ (I73 0 71 = 3 → 2 ≤ I73 0 73 - I73 0 72 ∧ I73 0 73 - I73 0 72 ≤ 14) ∧ (I73 0 72 ≤ I73 0 73) ∧ (I73 0 69 = I 0 69) ∧ (I 0 73 ≤ I73 0 73) ∧ (I 0 72 ≤ I73 0 72)) → gv_X (gr_E ws0 tb 11 (yX13_fun, cX13_fun, 6, (some .boolean)) kX13_fun) (gv_Q cX13_fun (some .boolean) (gr_sh ++ ext) (fun r h' => (∃ (I' : gr_I) (J' : gr_J), h' = gr_h I' J' ∧ gr_Inv I' ∧ gr_fr [3, 71, 72, 73, 74, 75, 76, 77, 101] [3, 6, 7, 8, 9, 10, 61] I I' ∧ gr_fj [3, 71, 72, 73, 74, 75, 76, 77, 101] [3, 6, 7, 8, 9, 10, 61] J J' ∧ gr_GR I' ∧ gr_ST I9 I' ∧ gr_TO I' ∧ gr_FM I' ∧ gr_MQ I9 I' ∧ (∃ z : Int, r = some (.inl z) ∧ 0 ≤ z ∧ z ≤ 1 ∧ (I' 0 71 = 5 ∨ I' 0 73 ≤ I' 0 69) ∧ (I' 0 72 ≤ I' 0 69) ∧ (I' 0 71 = 0 ∨ (I' 0 72 < I' 0 73 ∧ I' 0 72 < I' 0 69)) ∧ (I' 0 71 = 3 → 2 ≤ I' 0 73 - I' 0 72 ∧ I' 0 73 - I' 0 72 ≤ 14) ∧ (I' 0 72 ≤ I' 0 73) ∧ (I' 0 69 = I 0 69) ∧ (I 0 73 ≤ I' 0 73) ∧ (I 0 72 ≤ I' 0 72))))) (192, [], [], gr_sh ++ ext, gr_h I73 J74) := by
                intro I73 J74 hI73 FI73 FJ74 KGR_I73 KST_I73 KTO_I73 KFM_I73 KMQ_I73 m_75
                clear hv3_24_67 e0_67 e1_67 e2_67 e3_67 e4_67 e5_67 e6_67 e7_67 e8_67 f68 f69 f70 f71 f72
                obtain ⟨e0_75, e1_75, e2_75, e3_75, e4_75, e5_75, e6_75, e7_75⟩ := m_75
                have f76 := (show 0 ≤ I73 0 71 ∧ I73 0 71 ≤ 5 from (hI73 0 71).1)
                have f77 := (show 0 ≤ I73 0 72 ∧ I73 0 72 ≤ 1000 from (hI73 0 72).1)
                have f78 := (show 0 ≤ I73 0 73 ∧ I73 0 73 ≤ 1001 from (hI73 0 73).1)
                have f79 := (show 0 ≤ I73 0 69 ∧ I73 0 69 ≤ 1000 from (hI73 0 69).1)
                have f80 := (show 0 ≤ I73 0 3 ∧ I73 0 3 ≤ 96 from (hI73 0 3).1)
                refine gv_run 1 true hD (pc' := 193) (lv' := []) (st' := [.inl 0]) (h' := gr_h I73 J74) (C := (True ∧ True)) rfl ⟨trivial, trivial⟩ ?_
                exact gv_zret hD rfl (by omega) ⟨I73, J74, rfl, hI73, FI73, FJ74, KGR_I73, KST_I73, KTO_I73, KFM_I73, KMQ_I73, ⟨_, rfl, by omega⟩⟩
              have L171 : ∀ (I81 : gr_I) (J82 : gr_J) (v4_83 : Int), gr_Inv I81 → gr_fr [3, 71, 72, 73, 74, 75, 76, 77, 101] [3, 6, 7, 8, 9, 10, 61] I I81 → gr_fj [3, 71, 72, 73, 74, 75, 76, 77, 101] [3, 6, 7, 8, 9, 10, 61] J J82 → gr_GR I81 → gr_ST I9 I81 → gr_TO I81 → gr_FM I81 → gr_MQ I9 I81 → ((0 ≤ v3_24 ∧ v3_24 ≤ 4) ∧ (0 ≤ v4_83 ∧ v4_83 ≤ 31) ∧ (I81 0 71 = 5 ∨ I81 0 73 ≤ I81 0 69) ∧ (I81 0 72 ≤ I81 0 69) ∧ (I81 0 71 = 0 ∨ (I81 0 72 < I81 0 73 ∧ I81 0 72 < I81 0 69)) ∧ (I81 0 71 = 3 → 2 ≤ I81 0 73 - I81 0 72 ∧ I81 0 73 - I81 0 72 ≤ 14) ∧ (I81 0 72 ≤ I81 0 73) ∧ (I81 0 69 = I 0 69) ∧ (I 0 73 ≤ I81 0 73) ∧ (I 0 72 ≤ I81 0 72)) → gv_X (gr_E ws0 tb 11 (yX13_fun, cX13_fun, 6, (some .boolean)) kX13_fun) (gv_Q cX13_fun (some .boolean) (gr_sh ++ ext) (fun r h' => (∃ (I' : gr_I) (J' : gr_J), h' = gr_h I' J' ∧ gr_Inv I' ∧ gr_fr [3, 71, 72, 73, 74, 75, 76, 77, 101] [3, 6, 7, 8, 9, 10, 61] I I' ∧ gr_fj [3, 71, 72, 73, 74, 75, 76, 77, 101] [3, 6, 7, 8, 9, 10, 61] J J' ∧ gr_GR I' ∧ gr_ST I9 I' ∧ gr_TO I' ∧ gr_FM I' ∧ gr_MQ I9 I' ∧ (∃ z : Int, r = some (.inl z) ∧ 0 ≤ z ∧ z ≤ 1 ∧ (I' 0 71 = 5 ∨ I' 0 73 ≤ I' 0 69) ∧ (I' 0 72 ≤ I' 0 69) ∧ (I' 0 71 = 0 ∨ (I' 0 72 < I' 0 73 ∧ I' 0 72 < I' 0 69)) ∧ (I' 0 71 = 3 → 2 ≤ I' 0 73 - I' 0 72 ∧ I' 0 73 - I' 0 72 ≤ 14) ∧ (I' 0 72 ≤ I' 0 73) ∧ (I' 0 69 = I 0 69) ∧ (I 0 73 ≤ I' 0 73) ∧ (I 0 72 ≤ I' 0 72))))) (171, [(0, .inr (.inr (some 0))), (1, .inr (.inl v1_16)), (3, .inl v3_24), (4, .inl v4_83)], [], gr_sh ++ ext, gr_h I81 J82) := by
                intro I81 J82 v4_83 hI81 FI81 FJ82 KGR_I81 KST_I81 KTO_I81 KFM_I81 KMQ_I81 m_83
                clear hv3_24_67 e0_67 e1_67 e2_67 e3_67 e4_67 e5_67 e6_67 e7_67 e8_67 f68 f69 f70 f71 f72
                obtain ⟨hv3_24_83, hv4_83, e0_83, e1_83, e2_83, e3_83, e4_83, e5_83, e6_83, e7_83⟩ := m_83
                have f84 := (show 0 ≤ I81 0 71 ∧ I81 0 71 ≤ 5 from (hI81 0 71).1)
                have f85 := (show 0 ≤ I81 0 72 ∧ I81 0 72 ≤ 1000 from (hI81 0 72).1)
                have f86 := (show 0 ≤ I81 0 73 ∧ I81 0 73 ≤ 1001 from (hI81 0 73).1)
                have f87 := (show 0 ≤ I81 0 69 ∧ I81 0 69 ≤ 1000 from (hI81 0 69).1)
                have f88 := (show 0 ≤ I81 0 3 ∧ I81 0 3 ≤ 96 from (hI81 0 3).1)
                have L186 : ∀ (s1_89 : Int), ((0 ≤ v3_24 ∧ v3_24 ≤ 4) ∧ (0 ≤ v4_83 ∧ v4_83 ≤ 31) ∧ (0 ≤ s1_89 ∧ s1_89 ≤ 1) ∧ (s1_89 = 0 ∨ I81 0 3 ≤ 95) ∧ (I81 0 71 = 5 ∨ I81 0 73 ≤ I81 0 69) ∧ (I81 0 72 ≤ I81 0 69) ∧ (I81 0 71 = 0 ∨ (I81 0 72 < I81 0 73 ∧ I81 0 72 < I81 0 69)) ∧ (I81 0 71 = 3 → 2 ≤ I81 0 73 - I81 0 72 ∧ I81 0 73 - I81 0 72 ≤ 14) ∧ (I81 0 72 ≤ I81 0 73) ∧ (I81 0 69 = I 0 69) ∧ (I 0 73 ≤ I81 0 73) ∧ (I 0 72 ≤ I81 0 72)) → gv_X (gr_E ws0 tb 11 (yX13_fun, cX13_fun, 6, (some .boolean)) kX13_fun) (gv_Q cX13_fun (some .boolean) (gr_sh ++ ext) (fun r h' => (∃ (I' : gr_I) (J' : gr_J), h' = gr_h I' J' ∧ gr_Inv I' ∧ gr_fr [3, 71, 72, 73, 74, 75, 76, 77, 101] [3, 6, 7, 8, 9, 10, 61] I I' ∧ gr_fj [3, 71, 72, 73, 74, 75, 76, 77, 101] [3, 6, 7, 8, 9, 10, 61] J J' ∧ gr_GR I' ∧ gr_ST I9 I' ∧ gr_TO I' ∧ gr_FM I' ∧ gr_MQ I9 I' ∧ (∃ z : Int, r = some (.inl z) ∧ 0 ≤ z ∧ z ≤ 1 ∧ (I' 0 71 = 5 ∨ I' 0 73 ≤ I' 0 69) ∧ (I' 0 72 ≤ I' 0 69) ∧ (I' 0 71 = 0 ∨ (I' 0 72 < I' 0 73 ∧ I' 0 72 < I' 0 69)) ∧ (I' 0 71 = 3 → 2 ≤ I' 0 73 - I' 0 72 ∧ I' 0 73 - I' 0 72 ≤ 14) ∧ (I' 0 72 ≤ I' 0 73) ∧ (I' 0 69 = I 0 69) ∧ (I 0 73 ≤ I' 0 73) ∧ (I 0 72 ≤ I' 0 72))))) (186, [(0, .inr (.inr (some 0))), (1, .inr (.inl v1_16)), (3, .inl v3_24), (4, .inl v4_83)], [.inl s1_89, .inr (.inr (some 0))], gr_sh ++ ext, gr_h I81 J82) := by
                  intro s1_89 m_89
                  obtain ⟨hv3_24_89, hv4_83_89, hs1_89, e0_89, e1_89, e2_89, e3_89, e4_89, e5_89, e6_89, e7_89, e8_89⟩ := m_89
                  have f90 := (show 0 ≤ I81 0 71 ∧ I81 0 71 ≤ 5 from (hI81 0 71).1)
                  have f91 := (show 0 ≤ I81 0 72 ∧ I81 0 72 ≤ 1000 from (hI81 0 72).1)
                  have f92 := (show 0 ≤ I81 0 73 ∧ I81 0 73 ≤ 1001 from (hI81 0 73).1)
                  have f93 := (show 0 ≤ I81 0 69 ∧ I81 0 69 ≤ 1000 from (hI81 0 69).1)
                  have f94 := (show 0 ≤ I81 0 3 ∧ I81 0 3 ≤ 96 from (hI81 0 3).1)
                  have L217 : ∀ (n : Nat) (I95 : gr_I) (J96 : gr_J) (v5_97 : Int), (5 - v5_97).toNat < n → gr_Inv I95 → gr_fr [3, 71, 72, 73, 74, 75, 76, 77, 101] [3, 6, 7, 8, 9, 10, 61] I I95 → gr_fj [3, 71, 72, 73, 74, 75, 76, 77, 101] [3, 6, 7, 8, 9, 10, 61] J J96 → gr_GR I95 → gr_ST I9 I95 → gr_TO I95 → gr_FM I95 → gr_MQ I9 I95 → ((0 ≤ v3_24 ∧ v3_24 ≤ 4) ∧ (0 ≤ v4_83 ∧ v4_83 ≤ 31) ∧ (0 ≤ v5_97 ∧ v5_97 ≤ 4) ∧ (I95 0 3 ≤ 95) ∧ (I95 0 71 = 5 ∨ I95 0 73 ≤ I95 0 69) ∧ (I95 0 72 ≤ I95 0 69) ∧ (I95 0 71 = 0 ∨ (I95 0 72 < I95 0 73 ∧ I95 0 72 < I95 0 69)) ∧ (I95 0 71 = 3 → 2 ≤ I95 0 73 - I95 0 72 ∧ I95 0 73 - I95 0 72 ≤ 14) ∧ (I95 0 72 ≤ I95 0 73) ∧ (I95 0 69 = I 0 69) ∧ (I 0 73 ≤ I95 0 73) ∧ (I 0 72 ≤ I95 0 72)) → gv_X (gr_E ws0 tb 11 (yX13_fun, cX13_fun, 6, (some .boolean)) kX13_fun) (gv_Q cX13_fun (some .boolean) (gr_sh ++ ext) (fun r h' => (∃ (I' : gr_I) (J' : gr_J), h' = gr_h I' J' ∧ gr_Inv I' ∧ gr_fr [3, 71, 72, 73, 74, 75, 76, 77, 101] [3, 6, 7, 8, 9, 10, 61] I I' ∧ gr_fj [3, 71, 72, 73, 74, 75, 76, 77, 101] [3, 6, 7, 8, 9, 10, 61] J J' ∧ gr_GR I' ∧ gr_ST I9 I' ∧ gr_TO I' ∧ gr_FM I' ∧ gr_MQ I9 I' ∧ (∃ z : Int, r = some (.inl z) ∧ 0 ≤ z ∧ z ≤ 1 ∧ (I' 0 71 = 5 ∨ I' 0 73 ≤ I' 0 69) ∧ (I' 0 72 ≤ I' 0 69) ∧ (I' 0 71 = 0 ∨ (I' 0 72 < I' 0 73 ∧ I' 0 72 < I' 0 69)) ∧ (I' 0 71 = 3 → 2 ≤ I' 0 73 - I' 0 72 ∧ I' 0 73 - I' 0 72 ≤ 14) ∧ (I' 0 72 ≤ I' 0 73) ∧ (I' 0 69 = I 0 69) ∧ (I 0 73 ≤ I' 0 73) ∧ (I 0 72 ≤ I' 0 72))))) (217, [(0, .inr (.inr (some 0))), (3, .inl v3_24), (4, .inl v4_83), (5, .inl v5_97)], [], gr_sh ++ ext, gr_h I95 J96) := by
                    intro n
                    induction n with
                    | zero => intro I95 J96 v5_97 hn; omega
                    | succ n ih217 =>
                      intro I95 J96 v5_97 hn hI95 FI95 FJ96 KGR_I95 KST_I95 KTO_I95 KFM_I95 KMQ_I95 m_97
                      clear hv3_24_89 hv4_83_89 hs1_89 e0_89 e1_89 e2_89 e3_89 e4_89 e5_89 e6_89 e7_89 e8_89 f90 f91 f92 f93 f94 hv3_24_83 hv4_83 e0_83 e1_83 e2_83 e3_83 e4_83 e5_83 e6_83 e7_83 f84 f85 f86 f87 f88
                      obtain ⟨hv3_24_97, hv4_83_97, hv5_97, e0_97, e1_97, e2_97, e3_97, e4_97, e5_97, e6_97, e7_97, e8_97⟩ := m_97
                      have f98 := (show 0 ≤ I95 0 71 ∧ I95 0 71 ≤ 5 from (hI95 0 71).1)
                      have f99 := (show 0 ≤ I95 0 72 ∧ I95 0 72 ≤ 1000 from (hI95 0 72).1)
                      have f100 := (show 0 ≤ I95 0 73 ∧ I95 0 73 ≤ 1001 from (hI95 0 73).1)
                      have f101 := (show 0 ≤ I95 0 69 ∧ I95 0 69 ≤ 1000 from (hI95 0 69).1)
                      have f102 := (show 0 ≤ I95 0 3 ∧ I95 0 3 ≤ 96 from (hI95 0 3).1)
                      refine gv_run 2 true hD (pc' := 220) (lv' := [(0, .inr (.inr (some 0))), (3, .inl v3_24), (4, .inl v4_83), (5, .inl v5_97)]) (st' := [.inl v3_24, .inl v5_97]) (h' := gr_h I95 J96) (C := ((True ∧ True) ∧ True)) rfl ⟨⟨trivial, trivial⟩, trivial⟩ ?_
                      refine gv_icmp_ge (t := 250) hD rfl rfl ⟨⟨by omega, by omega⟩, ⟨by omega, by omega⟩⟩ (fun c103 => ?_) (fun c103 => ?_)
                      · have f104 := (show 0 ≤ I95 0 3 ∧ I95 0 3 ≤ 96 from (hI95 0 3).1)
                        refine gv_run 5 true hD (pc' := 260) (lv' := [(0, .inr (.inr (some 0))), (3, .inl v3_24), (4, .inl v4_83), (5, .inl v5_97)]) (st' := [.inl v4_83, .inl (I95 0 3), .inr (.inr (some 8))]) (h' := gr_h I95 J96) (C := (((((True ∧ True) ∧ True) ∧ True) ∧ True) ∧ True)) rfl ⟨⟨⟨⟨⟨trivial, trivial⟩, trivial⟩, trivial⟩, trivial⟩, trivial⟩ ?_
                        refine gv_run 1 true hD (pc' := 261) (lv' := [(0, .inr (.inr (some 0))), (3, .inl v3_24), (4, .inl v4_83), (5, .inl v5_97)]) (st' := []) (h' := gz_up (gr_h I95 J96) 8 (Int.toNat ((I95 0 3))) (.inl v4_83)) (C := (True ∧ (0 ≤ (I95 0 3) ∧ (I95 0 3) < ((96 : Nat) : Int)))) rfl ⟨trivial, ⟨by omega, by omega⟩⟩ ?_
                        refine gr_st hI95 FI95 rfl rfl ⟨⟨by show 0 ≤ _; omega, by show _ ≤ 31; omega⟩, trivial⟩ (fun I105 hI105 FI105 q106 p106 => ?_)
                        have t107 := p106 0 71 (fun q => absurd q.1 (by decide))
                        have t108 := p106 0 72 (fun q => absurd q.1 (by decide))
                        have t109 := p106 0 73 (fun q => absurd q.1 (by decide))
                        have t110 := p106 0 69 (fun q => absurd q.1 (by decide))
                        have t111 := p106 0 3 (fun q => absurd q.1 (by decide))
                        have f112 := (show 0 ≤ I105 0 71 ∧ I105 0 71 ≤ 5 from (hI105 0 71).1)
                        have f113 := (show 0 ≤ I105 0 72 ∧ I105 0 72 ≤ 1000 from (hI105 0 72).1)
                        have f114 := (show 0 ≤ I105 0 73 ∧ I105 0 73 ≤ 1001 from (hI105 0 73).1)
                        have f115 := (show 0 ≤ I105 0 69 ∧ I105 0 69 ≤ 1000 from (hI105 0 69).1)
                        have f116 := (show 0 ≤ I105 0 3 ∧ I105 0 3 ≤ 96 from (hI105 0 3).1)
                        have KGR_I105 := gr_GR_8 KGR_I95 p106 (by omega)
                        have KST_I105 := gr_ST_fr KST_I95 (fun k => p106 6 k (fun q => absurd q.1 (by decide))) (fun k => p106 19 k (fun q => absurd q.1 (by decide))) (fun k => p106 18 k (fun q => absurd q.1 (by decide))) (fun k => p106 41 k (fun q => absurd q.1 (by decide))) (fun k => p106 36 k (fun q => absurd q.1 (by decide))) (p106 0 3 (fun q => absurd q.1 (by decide)))
                        have KTO_I105 := gr_TO_fr KTO_I95 (fun k => p106 52 k (fun q => absurd q.1 (by decide))) (fun k => p106 53 k (fun q => absurd q.1 (by decide))) (fun k => p106 54 k (fun q => absurd q.1 (by decide))) (fun k => p106 55 k (fun q => absurd q.1 (by decide))) (fun k => p106 6 k (fun q => absurd q.1 (by decide))) (p106 0 64 (fun q => absurd q.1 (by decide))) (p106 0 3 (fun q => absurd q.1 (by decide)))
                        have KFM_I105 := gr_FM_fr KFM_I95 (fun k => p106 10 k (fun q => absurd q.1 (by decide))) (fun k => p106 55 k (fun q => absurd q.1 (by decide))) (fun k => p106 52 k (fun q => absurd q.1 (by decide))) (fun k => p106 53 k (fun q => absurd q.1 (by decide))) (fun k => p106 54 k (fun q => absurd q.1 (by decide))) (p106 0 64 (fun q => absurd q.1 (by decide))) (p106 0 3 (fun q => absurd q.1 (by decide)))
                        have KMQ_I105 := gr_MQ_fr KMQ_I95 (fun k => p106 10 k (fun q => absurd q.1 (by decide))) (fun k => p106 55 k (fun q => absurd q.1 (by decide))) (fun k => p106 52 k (fun q => absurd q.1 (by decide))) (fun k => p106 53 k (fun q => absurd q.1 (by decide))) (fun k => p106 54 k (fun q => absurd q.1 (by decide))) (fun k => p106 60 k (fun q => absurd q.1 (by decide))) (p106 0 64 (fun q => absurd q.1 (by decide))) (p106 0 3 (fun q => absurd q.1 (by decide))) (p106 0 99 (fun q => absurd q.1 (by decide)))
                        have f117 := (show 0 ≤ I105 0 3 ∧ I105 0 3 ≤ 96 from (hI105 0 3).1)
                        refine gv_run 4 true hD (pc' := 269) (lv' := [(0, .inr (.inr (some 0))), (3, .inl v3_24), (4, .inl v4_83), (5, .inl v5_97)]) (st' := [.inl (I105 0 3), .inr (.inr (some 9))]) (h' := gr_h I105 J96) (C := ((((True ∧ True) ∧ True) ∧ True) ∧ True)) rfl ⟨⟨⟨⟨trivial, trivial⟩, trivial⟩, trivial⟩, trivial⟩ ?_
                        rw [t111]
                        have f118 := (show 0 ≤ I105 0 101 ∧ I105 0 101 ≤ 10000 from (hI105 0 101).1)
                        refine gv_run 3 true hD (pc' := 274) (lv' := [(0, .inr (.inr (some 0))), (3, .inl v3_24), (4, .inl v4_83), (5, .inl v5_97)]) (st' := []) (h' := gz_up (gr_h I105 J96) 9 (Int.toNat ((I95 0 3))) (.inl (I105 0 101))) (C := (((True ∧ True) ∧ True) ∧ (0 ≤ (I95 0 3) ∧ (I95 0 3) < ((96 : Nat) : Int)))) rfl ⟨⟨⟨trivial, trivial⟩, trivial⟩, ⟨by omega, by omega⟩⟩ ?_
                        refine gr_st hI105 FI105 rfl rfl ⟨⟨by show 0 ≤ _; omega, by show _ ≤ 10000; omega⟩, trivial⟩ (fun I119 hI119 FI119 q120 p120 => ?_)
                        have t121 := p120 0 71 (fun q => absurd q.1 (by decide))
                        have t122 := p120 0 72 (fun q => absurd q.1 (by decide))
                        have t123 := p120 0 73 (fun q => absurd q.1 (by decide))
                        have t124 := p120 0 69 (fun q => absurd q.1 (by decide))
                        have t125 := p120 0 3 (fun q => absurd q.1 (by decide))
                        have f126 := (show 0 ≤ I119 0 71 ∧ I119 0 71 ≤ 5 from (hI119 0 71).1)
                        have f127 := (show 0 ≤ I119 0 72 ∧ I119 0 72 ≤ 1000 from (hI119 0 72).1)
                        have f128 := (show 0 ≤ I119 0 73 ∧ I119 0 73 ≤ 1001 from (hI119 0 73).1)
                        have f129 := (show 0 ≤ I119 0 69 ∧ I119 0 69 ≤ 1000 from (hI119 0 69).1)
                        have f130 := (show 0 ≤ I119 0 3 ∧ I119 0 3 ≤ 96 from (hI119 0 3).1)
                        have KGR_I119 := gr_GR_fr KGR_I105 (fun k => p120 19 k (fun q => absurd q.1 (by decide))) (fun k => p120 18 k (fun q => absurd q.1 (by decide))) (fun k => p120 36 k (fun q => absurd q.1 (by decide))) (fun k => p120 41 k (fun q => absurd q.1 (by decide))) (fun k => p120 42 k (fun q => absurd q.1 (by decide))) (fun k => p120 43 k (fun q => absurd q.1 (by decide))) (fun k => p120 45 k (fun q => absurd q.1 (by decide))) (fun k => p120 46 k (fun q => absurd q.1 (by decide))) (fun k => p120 47 k (fun q => absurd q.1 (by decide))) (fun k => p120 6 k (fun q => absurd q.1 (by decide))) (fun k => p120 7 k (fun q => absurd q.1 (by decide))) (fun k => p120 8 k (fun q => absurd q.1 (by decide))) (p120 0 3 (fun q => absurd q.1 (by decide)))
                        have KST_I119 := gr_ST_fr KST_I105 (fun k => p120 6 k (fun q => absurd q.1 (by decide))) (fun k => p120 19 k (fun q => absurd q.1 (by decide))) (fun k => p120 18 k (fun q => absurd q.1 (by decide))) (fun k => p120 41 k (fun q => absurd q.1 (by decide))) (fun k => p120 36 k (fun q => absurd q.1 (by decide))) (p120 0 3 (fun q => absurd q.1 (by decide)))
                        have KTO_I119 := gr_TO_fr KTO_I105 (fun k => p120 52 k (fun q => absurd q.1 (by decide))) (fun k => p120 53 k (fun q => absurd q.1 (by decide))) (fun k => p120 54 k (fun q => absurd q.1 (by decide))) (fun k => p120 55 k (fun q => absurd q.1 (by decide))) (fun k => p120 6 k (fun q => absurd q.1 (by decide))) (p120 0 64 (fun q => absurd q.1 (by decide))) (p120 0 3 (fun q => absurd q.1 (by decide)))
                        have KFM_I119 := gr_FM_fr KFM_I105 (fun k => p120 10 k (fun q => absurd q.1 (by decide))) (fun k => p120 55 k (fun q => absurd q.1 (by decide))) (fun k => p120 52 k (fun q => absurd q.1 (by decide))) (fun k => p120 53 k (fun q => absurd q.1 (by decide))) (fun k => p120 54 k (fun q => absurd q.1 (by decide))) (p120 0 64 (fun q => absurd q.1 (by decide))) (p120 0 3 (fun q => absurd q.1 (by decide)))
                        have KMQ_I119 := gr_MQ_fr KMQ_I105 (fun k => p120 10 k (fun q => absurd q.1 (by decide))) (fun k => p120 55 k (fun q => absurd q.1 (by decide))) (fun k => p120 52 k (fun q => absurd q.1 (by decide))) (fun k => p120 53 k (fun q => absurd q.1 (by decide))) (fun k => p120 54 k (fun q => absurd q.1 (by decide))) (fun k => p120 60 k (fun q => absurd q.1 (by decide))) (p120 0 64 (fun q => absurd q.1 (by decide))) (p120 0 3 (fun q => absurd q.1 (by decide))) (p120 0 99 (fun q => absurd q.1 (by decide)))
                        have f131 := (show 0 ≤ I119 0 3 ∧ I119 0 3 ≤ 96 from (hI119 0 3).1)
                        refine gv_run 5 true hD (pc' := 283) (lv' := [(0, .inr (.inr (some 0))), (3, .inl v3_24), (4, .inl v4_83), (5, .inl v5_97)]) (st' := [.inl (I119 0 3), .inr (.inr (some 0)), .inr (.inr (some 10))]) (h' := gr_h I119 J96) (C := (((((True ∧ True) ∧ True) ∧ True) ∧ True) ∧ True)) rfl ⟨⟨⟨⟨⟨trivial, trivial⟩, trivial⟩, trivial⟩, trivial⟩, trivial⟩ ?_
                        rw [(t125.trans t111)]
                        refine gv_run 3 true hD (pc' := 286) (lv' := [(0, .inr (.inr (some 0))), (3, .inl v3_24), (4, .inl v4_83), (5, .inl v5_97)]) (st' := [.inl ((I95 0 3) + 1), .inr (.inr (some 0)), .inl (I95 0 3), .inr (.inr (some 10))]) (h' := gr_h I119 J96) (C := (((True ∧ True) ∧ True) ∧ True)) rfl ⟨⟨⟨trivial, trivial⟩, trivial⟩, trivial⟩ ?_
                        refine gv_run 1 true hD (pc' := 289) (lv' := [(0, .inr (.inr (some 0))), (3, .inl v3_24), (4, .inl v4_83), (5, .inl v5_97)]) (st' := [.inl (I95 0 3), .inr (.inr (some 10))]) (h' := gz_up (gr_h I119 J96) 0 3 (.inl (((I95 0 3) + 1)))) (C := (True ∧ True)) rfl ⟨trivial, trivial⟩ ?_
                        refine gr_st hI119 FI119 rfl rfl ⟨⟨by show 0 ≤ _; omega, by show _ ≤ 96; omega⟩, trivial⟩ (fun I132 hI132 FI132 q133 p133 => ?_)
                        have t134 := p133 0 71 (by decide)
                        have t135 := p133 0 72 (by decide)
                        have t136 := p133 0 73 (by decide)
                        have t137 := p133 0 69 (by decide)
                        have f138 := (show 0 ≤ I132 0 71 ∧ I132 0 71 ≤ 5 from (hI132 0 71).1)
                        have f139 := (show 0 ≤ I132 0 72 ∧ I132 0 72 ≤ 1000 from (hI132 0 72).1)
                        have f140 := (show 0 ≤ I132 0 73 ∧ I132 0 73 ≤ 1001 from (hI132 0 73).1)
                        have f141 := (show 0 ≤ I132 0 69 ∧ I132 0 69 ≤ 1000 from (hI132 0 69).1)
                        have f142 := (show 0 ≤ I132 0 3 ∧ I132 0 3 ≤ 96 from (hI132 0 3).1)
                        have KGR_I132 := gr_GR_n KGR_I119 p133 (by omega)
                        have KST_I132 := gr_ST_n KST_I119 p133 (by omega)
                        have KTO_I132 := gr_TO_n KTO_I119 p133 (by omega)
                        refine gv_run 2 true hD (pc' := 291) (lv' := [(0, .inr (.inr (some 0))), (3, .inl v3_24), (4, .inl v4_83), (5, .inl v5_97)]) (st' := []) (h' := gz_up (gr_h I132 J96) 10 (Int.toNat ((I95 0 3))) (.inl (-1))) (C := ((True ∧ True) ∧ (0 ≤ (I95 0 3) ∧ (I95 0 3) < ((96 : Nat) : Int)))) rfl ⟨⟨trivial, trivial⟩, ⟨by omega, by omega⟩⟩ ?_
                        refine gr_st hI132 FI132 rfl rfl ⟨⟨by show (-1) ≤ _; omega, by show _ ≤ 1999; omega⟩, trivial⟩ (fun I143 hI143 FI143 q144 p144 => ?_)
                        have t145 := p144 0 71 (fun q => absurd q.1 (by decide))
                        have t146 := p144 0 72 (fun q => absurd q.1 (by decide))
                        have t147 := p144 0 73 (fun q => absurd q.1 (by decide))
                        have t148 := p144 0 69 (fun q => absurd q.1 (by decide))
                        have t149 := p144 0 3 (fun q => absurd q.1 (by decide))
                        have f150 := (show 0 ≤ I143 0 71 ∧ I143 0 71 ≤ 5 from (hI143 0 71).1)
                        have f151 := (show 0 ≤ I143 0 72 ∧ I143 0 72 ≤ 1000 from (hI143 0 72).1)
                        have f152 := (show 0 ≤ I143 0 73 ∧ I143 0 73 ≤ 1001 from (hI143 0 73).1)
                        have f153 := (show 0 ≤ I143 0 69 ∧ I143 0 69 ≤ 1000 from (hI143 0 69).1)
                        have f154 := (show 0 ≤ I143 0 3 ∧ I143 0 3 ≤ 96 from (hI143 0 3).1)
                        have KGR_I143 := gr_GR_fr KGR_I132 (fun k => p144 19 k (fun q => absurd q.1 (by decide))) (fun k => p144 18 k (fun q => absurd q.1 (by decide))) (fun k => p144 36 k (fun q => absurd q.1 (by decide))) (fun k => p144 41 k (fun q => absurd q.1 (by decide))) (fun k => p144 42 k (fun q => absurd q.1 (by decide))) (fun k => p144 43 k (fun q => absurd q.1 (by decide))) (fun k => p144 45 k (fun q => absurd q.1 (by decide))) (fun k => p144 46 k (fun q => absurd q.1 (by decide))) (fun k => p144 47 k (fun q => absurd q.1 (by decide))) (fun k => p144 6 k (fun q => absurd q.1 (by decide))) (fun k => p144 7 k (fun q => absurd q.1 (by decide))) (fun k => p144 8 k (fun q => absurd q.1 (by decide))) (p144 0 3 (fun q => absurd q.1 (by decide)))
                        have KST_I143 := gr_ST_fr KST_I132 (fun k => p144 6 k (fun q => absurd q.1 (by decide))) (fun k => p144 19 k (fun q => absurd q.1 (by decide))) (fun k => p144 18 k (fun q => absurd q.1 (by decide))) (fun k => p144 41 k (fun q => absurd q.1 (by decide))) (fun k => p144 36 k (fun q => absurd q.1 (by decide))) (p144 0 3 (fun q => absurd q.1 (by decide)))
                        have KTO_I143 := gr_TO_fr KTO_I132 (fun k => p144 52 k (fun q => absurd q.1 (by decide))) (fun k => p144 53 k (fun q => absurd q.1 (by decide))) (fun k => p144 54 k (fun q => absurd q.1 (by decide))) (fun k => p144 55 k (fun q => absurd q.1 (by decide))) (fun k => p144 6 k (fun q => absurd q.1 (by decide))) (p144 0 64 (fun q => absurd q.1 (by decide))) (p144 0 3 (fun q => absurd q.1 (by decide)))
                        have KFM_I143 : gr_FM I143 := gr_FM_new KFM_I119 p133 (by omega) (by omega) p144 q144
                        have KMQ_I143 : gr_MQ I9 I143 := gr_MQ_new KMQ_I119 (by omega) p133 (by omega) (by omega) p144 q144
                        refine gv_run 1 true hD (pc' := 292) (lv' := [(0, .inr (.inr (some 0))), (3, .inl v3_24), (4, .inl v4_83), (5, .inl v5_97)]) (st' := [.inl 1]) (h' := gr_h I143 J96) (C := (True ∧ True)) rfl ⟨trivial, trivial⟩ ?_
                        exact gv_zret hD rfl (by omega) ⟨I143, J96, rfl, hI143, FI143, FJ96, KGR_I143, KST_I143, KTO_I143, KFM_I143, KMQ_I143, ⟨_, rfl, by omega⟩⟩
                      · have f155 := (show 0 ≤ I95 0 3 ∧ I95 0 3 ≤ 96 from (hI95 0 3).1)
                        refine gv_run 7 true hD (pc' := 235) (lv' := [(0, .inr (.inr (some 0))), (3, .inl v3_24), (4, .inl v4_83), (5, .inl v5_97)]) (st' := [.inl v5_97, .inl (4 * (I95 0 3)), .inr (.inr (some 7))]) (h' := gr_h I95 J96) (C := (((((((True ∧ True) ∧ True) ∧ True) ∧ True) ∧ True) ∧ True) ∧ True)) rfl ⟨⟨⟨⟨⟨⟨⟨trivial, trivial⟩, trivial⟩, trivial⟩, trivial⟩, trivial⟩, trivial⟩, trivial⟩ ?_
                        have f156 := (show 0 ≤ I95 61 (Int.toNat v5_97) ∧ I95 61 (Int.toNat v5_97) ≤ 31 from (hI95 61 (Int.toNat v5_97)).1)
                        refine gv_run 5 true hD (pc' := 243) (lv' := [(0, .inr (.inr (some 0))), (3, .inl v3_24), (4, .inl v4_83), (5, .inl v5_97)]) (st' := [.inl (I95 61 (Int.toNat v5_97)), .inl ((4 * (I95 0 3)) + v5_97), .inr (.inr (some 7))]) (h' := gr_h I95 J96) (C := (((((True ∧ True) ∧ True) ∧ True) ∧ True) ∧ (0 ≤ v5_97 ∧ v5_97 < ((4 : Nat) : Int)))) rfl ⟨⟨⟨⟨⟨trivial, trivial⟩, trivial⟩, trivial⟩, trivial⟩, ⟨by omega, by omega⟩⟩ ?_
                        refine gv_run 1 true hD (pc' := 244) (lv' := [(0, .inr (.inr (some 0))), (3, .inl v3_24), (4, .inl v4_83), (5, .inl v5_97)]) (st' := []) (h' := gz_up (gr_h I95 J96) 7 (Int.toNat (((4 * (I95 0 3)) + v5_97))) (.inl ((I95 61 (Int.toNat v5_97))))) (C := (True ∧ (0 ≤ (((4 * (I95 0 3)) + v5_97)) ∧ (((4 * (I95 0 3)) + v5_97)) < ((384 : Nat) : Int)))) rfl ⟨trivial, ⟨by omega, by omega⟩⟩ ?_
                        refine gr_st hI95 FI95 rfl rfl ⟨⟨by show 0 ≤ _; omega, by show _ ≤ 31; omega⟩, trivial⟩ (fun I157 hI157 FI157 q158 p158 => ?_)
                        have t159 := p158 0 71 (fun q => absurd q.1 (by decide))
                        have t160 := p158 0 72 (fun q => absurd q.1 (by decide))
                        have t161 := p158 0 73 (fun q => absurd q.1 (by decide))
                        have t162 := p158 0 69 (fun q => absurd q.1 (by decide))
                        have t163 := p158 0 3 (fun q => absurd q.1 (by decide))
                        have f164 := (show 0 ≤ I157 0 71 ∧ I157 0 71 ≤ 5 from (hI157 0 71).1)
                        have f165 := (show 0 ≤ I157 0 72 ∧ I157 0 72 ≤ 1000 from (hI157 0 72).1)
                        have f166 := (show 0 ≤ I157 0 73 ∧ I157 0 73 ≤ 1001 from (hI157 0 73).1)
                        have f167 := (show 0 ≤ I157 0 69 ∧ I157 0 69 ≤ 1000 from (hI157 0 69).1)
                        have f168 := (show 0 ≤ I157 0 3 ∧ I157 0 3 ≤ 96 from (hI157 0 3).1)
                        have KGR_I157 := gr_GR_7 KGR_I95 p158 (by omega)
                        have KST_I157 := gr_ST_fr KST_I95 (fun k => p158 6 k (fun q => absurd q.1 (by decide))) (fun k => p158 19 k (fun q => absurd q.1 (by decide))) (fun k => p158 18 k (fun q => absurd q.1 (by decide))) (fun k => p158 41 k (fun q => absurd q.1 (by decide))) (fun k => p158 36 k (fun q => absurd q.1 (by decide))) (p158 0 3 (fun q => absurd q.1 (by decide)))
                        have KTO_I157 := gr_TO_fr KTO_I95 (fun k => p158 52 k (fun q => absurd q.1 (by decide))) (fun k => p158 53 k (fun q => absurd q.1 (by decide))) (fun k => p158 54 k (fun q => absurd q.1 (by decide))) (fun k => p158 55 k (fun q => absurd q.1 (by decide))) (fun k => p158 6 k (fun q => absurd q.1 (by decide))) (p158 0 64 (fun q => absurd q.1 (by decide))) (p158 0 3 (fun q => absurd q.1 (by decide)))
                        have KFM_I157 := gr_FM_fr KFM_I95 (fun k => p158 10 k (fun q => absurd q.1 (by decide))) (fun k => p158 55 k (fun q => absurd q.1 (by decide))) (fun k => p158 52 k (fun q => absurd q.1 (by decide))) (fun k => p158 53 k (fun q => absurd q.1 (by decide))) (fun k => p158 54 k (fun q => absurd q.1 (by decide))) (p158 0 64 (fun q => absurd q.1 (by decide))) (p158 0 3 (fun q => absurd q.1 (by decide)))
                        have KMQ_I157 := gr_MQ_fr KMQ_I95 (fun k => p158 10 k (fun q => absurd q.1 (by decide))) (fun k => p158 55 k (fun q => absurd q.1 (by decide))) (fun k => p158 52 k (fun q => absurd q.1 (by decide))) (fun k => p158 53 k (fun q => absurd q.1 (by decide))) (fun k => p158 54 k (fun q => absurd q.1 (by decide))) (fun k => p158 60 k (fun q => absurd q.1 (by decide))) (p158 0 64 (fun q => absurd q.1 (by decide))) (p158 0 3 (fun q => absurd q.1 (by decide))) (p158 0 99 (fun q => absurd q.1 (by decide)))
                        refine gv_run 2 true hD (pc' := 217) (lv' := [(5, .inl (v5_97 + 1)), (0, .inr (.inr (some 0))), (3, .inl v3_24), (4, .inl v4_83)]) (st' := []) (h' := gr_h I157 J96) (C := ((True ∧ True) ∧ True)) rfl ⟨⟨trivial, trivial⟩, trivial⟩ ?_
                        refine gv_pick [1, 2, 3, 0] rfl ?_
                        exact ih217 I157 J96 (v5_97 + 1) (by omega) hI157 FI157 FJ96 KGR_I157 KST_I157 KTO_I157 KFM_I157 KMQ_I157 (by omega)
                  obtain ⟨r169, h169, E169, P169⟩ := r_done (ws0 := ws0) (tb := tb) hws htb ext I81 J82 hI81 s1_89 ⟨by omega, by omega⟩ (by omega) (by omega) (by omega) (by omega) (by omega)
                  obtain ⟨I170, J171, rfl, hI170, g169, k169, ⟨z169, rfl, q169⟩⟩ := P169
                  have FI170 := gr_frt FI81 g169 rfl rfl
                  have FJ171 := gr_fjt FJ82 k169 rfl rfl
                  have t172 := g169 0 69 rfl
                  have t173 := g169 0 3 rfl
                  have f174 := (show 0 ≤ I170 0 71 ∧ I170 0 71 ≤ 5 from (hI170 0 71).1)
                  have f175 := (show 0 ≤ I170 0 72 ∧ I170 0 72 ≤ 1000 from (hI170 0 72).1)
                  have f176 := (show 0 ≤ I170 0 73 ∧ I170 0 73 ≤ 1001 from (hI170 0 73).1)
                  have f177 := (show 0 ≤ I170 0 69 ∧ I170 0 69 ≤ 1000 from (hI170 0 69).1)
                  have f178 := (show 0 ≤ I170 0 3 ∧ I170 0 3 ≤ 96 from (hI170 0 3).1)
                  have KGR_I170 := gr_GR_fr KGR_I81 (fun k => g169 19 k rfl) (fun k => g169 18 k rfl) (fun k => g169 36 k rfl) (fun k => g169 41 k rfl) (fun k => g169 42 k rfl) (fun k => g169 43 k rfl) (fun k => g169 45 k rfl) (fun k => g169 46 k rfl) (fun k => g169 47 k rfl) (fun k => g169 6 k rfl) (fun k => g169 7 k rfl) (fun k => g169 8 k rfl) (g169 0 3 rfl)
                  have KST_I170 := gr_ST_fr KST_I81 (fun k => g169 6 k rfl) (fun k => g169 19 k rfl) (fun k => g169 18 k rfl) (fun k => g169 41 k rfl) (fun k => g169 36 k rfl) (g169 0 3 rfl)
                  have KTO_I170 := gr_TO_fr KTO_I81 (fun k => g169 52 k rfl) (fun k => g169 53 k rfl) (fun k => g169 54 k rfl) (fun k => g169 55 k rfl) (fun k => g169 6 k rfl) (g169 0 64 rfl) (g169 0 3 rfl)
                  have KFM_I170 := gr_FM_fr KFM_I81 (fun k => g169 10 k rfl) (fun k => g169 55 k rfl) (fun k => g169 52 k rfl) (fun k => g169 53 k rfl) (fun k => g169 54 k rfl) (g169 0 64 rfl) (g169 0 3 rfl)
                  have KMQ_I170 := gr_MQ_fr KMQ_I81 (fun k => g169 10 k rfl) (fun k => g169 55 k rfl) (fun k => g169 52 k rfl) (fun k => g169 53 k rfl) (fun k => g169 54 k rfl) (fun k => g169 60 k rfl) (g169 0 64 rfl) (g169 0 3 rfl) (g169 0 99 rfl)
                  refine gv_callV hD rfl (As := [.inl s1_89]) (st := []) rfl (by decide) rfl rfl (gr_lV hws rfl) (Nat.le_of_ble_eq_true rfl) (gz_Ev_mono (d := 11) (by decide) E169) ?_
                  show gv_X _ _ (189, [(0, .inr (.inr (some 0))), (1, .inr (.inl v1_16)), (3, .inl v3_24), (4, .inl v4_83)], [.inl z169], gr_sh ++ ext, gr_h I170 J171)
                  refine gv_if_ne (t := 194) hD rfl rfl ⟨by omega, by omega⟩ (fun c179 => ?_) (fun c179 => ?_)
                  · have f180 := (show 0 ≤ I170 0 3 ∧ I170 0 3 ≤ 96 from (hI170 0 3).1)
                    refine gv_run 4 true hD (pc' := 202) (lv' := [(0, .inr (.inr (some 0))), (1, .inr (.inl v1_16)), (3, .inl v3_24), (4, .inl v4_83)]) (st' := [.inl (I170 0 3), .inr (.inr (some 3))]) (h' := gr_h I170 J171) (C := ((((True ∧ True) ∧ True) ∧ True) ∧ True)) rfl ⟨⟨⟨⟨trivial, trivial⟩, trivial⟩, trivial⟩, trivial⟩ ?_
                    rw [t173]
                    refine gv_run 2 true hD (pc' := 204) (lv' := [(0, .inr (.inr (some 0))), (1, .inr (.inl v1_16)), (3, .inl v3_24), (4, .inl v4_83)]) (st' := []) (h' := gz_up (gr_h I170 J171) 3 (Int.toNat ((I81 0 3))) (.inr (.inl v1_16))) (C := ((True ∧ True) ∧ (0 ≤ (I81 0 3) ∧ (I81 0 3) < ((96 : Nat) : Int)))) rfl ⟨⟨trivial, trivial⟩, ⟨by omega, by omega⟩⟩ ?_
                    refine gr_stJ FJ171 rfl rfl (fun J181 FJ181 => ?_)
                    have f182 := (show 0 ≤ I170 0 3 ∧ I170 0 3 ≤ 96 from (hI170 0 3).1)
                    refine gv_run 4 true hD (pc' := 212) (lv' := [(0, .inr (.inr (some 0))), (1, .inr (.inl v1_16)), (3, .inl v3_24), (4, .inl v4_83)]) (st' := [.inl (I170 0 3), .inr (.inr (some 6))]) (h' := gr_h I170 J181) (C := ((((True ∧ True) ∧ True) ∧ True) ∧ True)) rfl ⟨⟨⟨⟨trivial, trivial⟩, trivial⟩, trivial⟩, trivial⟩ ?_
                    rw [t173]
                    refine gv_run 2 true hD (pc' := 214) (lv' := [(0, .inr (.inr (some 0))), (1, .inr (.inl v1_16)), (3, .inl v3_24), (4, .inl v4_83)]) (st' := []) (h' := gz_up (gr_h I170 J181) 6 (Int.toNat ((I81 0 3))) (.inl v3_24)) (C := ((True ∧ True) ∧ (0 ≤ (I81 0 3) ∧ (I81 0 3) < ((96 : Nat) : Int)))) rfl ⟨⟨trivial, trivial⟩, ⟨by omega, by omega⟩⟩ ?_
                    refine gr_st hI170 FI170 rfl rfl ⟨⟨by show 0 ≤ _; omega, by show _ ≤ 4; omega⟩, trivial⟩ (fun I183 hI183 FI183 q184 p184 => ?_)
                    have t185 := p184 0 71 (fun q => absurd q.1 (by decide))
                    have t186 := p184 0 72 (fun q => absurd q.1 (by decide))
                    have t187 := p184 0 73 (fun q => absurd q.1 (by decide))
                    have t188 := p184 0 69 (fun q => absurd q.1 (by decide))
                    have t189 := p184 0 3 (fun q => absurd q.1 (by decide))
                    have f190 := (show 0 ≤ I183 0 71 ∧ I183 0 71 ≤ 5 from (hI183 0 71).1)
                    have f191 := (show 0 ≤ I183 0 72 ∧ I183 0 72 ≤ 1000 from (hI183 0 72).1)
                    have f192 := (show 0 ≤ I183 0 73 ∧ I183 0 73 ≤ 1001 from (hI183 0 73).1)
                    have f193 := (show 0 ≤ I183 0 69 ∧ I183 0 69 ≤ 1000 from (hI183 0 69).1)
                    have f194 := (show 0 ≤ I183 0 3 ∧ I183 0 3 ≤ 96 from (hI183 0 3).1)
                    have KGR_I183 := gr_GR_6 KGR_I170 p184 (by omega)
                    have KST_I183 := gr_ST_6 KST_I170 p184 (by omega)
                    have KTO_I183 := gr_TO_6 KTO_I170 p184 (by omega)
                    have KFM_I183 := gr_FM_fr KFM_I170 (fun k => p184 10 k (fun q => absurd q.1 (by decide))) (fun k => p184 55 k (fun q => absurd q.1 (by decide))) (fun k => p184 52 k (fun q => absurd q.1 (by decide))) (fun k => p184 53 k (fun q => absurd q.1 (by decide))) (fun k => p184 54 k (fun q => absurd q.1 (by decide))) (p184 0 64 (fun q => absurd q.1 (by decide))) (p184 0 3 (fun q => absurd q.1 (by decide)))
                    have KMQ_I183 := gr_MQ_fr KMQ_I170 (fun k => p184 10 k (fun q => absurd q.1 (by decide))) (fun k => p184 55 k (fun q => absurd q.1 (by decide))) (fun k => p184 52 k (fun q => absurd q.1 (by decide))) (fun k => p184 53 k (fun q => absurd q.1 (by decide))) (fun k => p184 54 k (fun q => absurd q.1 (by decide))) (fun k => p184 60 k (fun q => absurd q.1 (by decide))) (p184 0 64 (fun q => absurd q.1 (by decide))) (p184 0 3 (fun q => absurd q.1 (by decide))) (p184 0 99 (fun q => absurd q.1 (by decide)))
                    refine gv_run 2 true hD (pc' := 217) (lv' := [(5, .inl 0), (0, .inr (.inr (some 0))), (1, .inr (.inl v1_16)), (3, .inl v3_24), (4, .inl v4_83)]) (st' := []) (h' := gr_h I183 J181) (C := ((True ∧ True) ∧ True)) rfl ⟨⟨trivial, trivial⟩, trivial⟩ ?_
                    refine gv_pick [1, 3, 4, 0] rfl ?_
                    exact L217 _ I183 J181 0 (Nat.lt_succ_self _) hI183 FI183 FJ181 KGR_I183 KST_I183 KTO_I183 KFM_I183 KMQ_I183 (by omega)
                  · refine gv_pick [] rfl ?_
                    exact L192 I170 J171 hI170 FI170 FJ171 KGR_I170 KST_I170 KTO_I170 KFM_I170 KMQ_I170 (by omega)
                have f195 := (show 0 ≤ I81 0 3 ∧ I81 0 3 ≤ 96 from (hI81 0 3).1)
                refine gv_run 4 true hD (pc' := 178) (lv' := [(0, .inr (.inr (some 0))), (1, .inr (.inl v1_16)), (3, .inl v3_24), (4, .inl v4_83)]) (st' := [.inl 96, .inl (I81 0 3), .inr (.inr (some 0))]) (h' := gr_h I81 J82) (C := ((((True ∧ True) ∧ True) ∧ True) ∧ True)) rfl ⟨⟨⟨⟨trivial, trivial⟩, trivial⟩, trivial⟩, trivial⟩ ?_
                refine gv_icmp_ge (t := 185) hD rfl rfl ⟨⟨by omega, by omega⟩, ⟨by omega, by omega⟩⟩ (fun c196 => ?_) (fun c196 => ?_)
                · refine gv_run 1 true hD (pc' := 186) (lv' := [(0, .inr (.inr (some 0))), (1, .inr (.inl v1_16)), (3, .inl v3_24), (4, .inl v4_83)]) (st' := [.inl 0, .inr (.inr (some 0))]) (h' := gr_h I81 J82) (C := (True ∧ True)) rfl ⟨trivial, trivial⟩ ?_
                  exact L186 0 (by omega)
                · refine gv_run 2 true hD (pc' := 186) (lv' := [(0, .inr (.inr (some 0))), (1, .inr (.inl v1_16)), (3, .inl v3_24), (4, .inl v4_83)]) (st' := [.inl 1, .inr (.inr (some 0))]) (h' := gr_h I81 J82) (C := ((True ∧ True) ∧ True)) rfl ⟨⟨trivial, trivial⟩, trivial⟩ ?_
                  exact L186 1 (by omega)
              have f197 := (show 0 ≤ I65 0 2 ∧ I65 0 2 ≤ 32 from (hI65 0 2).1)
              refine gv_run 7 true hD (pc' := 144) (lv' := [(0, .inr (.inr (some 0))), (1, .inr (.inl v1_16)), (3, .inl v3_24)]) (st' := [.inr (.inl (J66 0 75)), .inl (I65 0 2), .inl 0, .inr (.inr (some 2))]) (h' := gr_h I65 J66) (C := (((((((True ∧ True) ∧ True) ∧ True) ∧ True) ∧ True) ∧ True) ∧ True)) rfl ⟨⟨⟨⟨⟨⟨⟨trivial, trivial⟩, trivial⟩, trivial⟩, trivial⟩, trivial⟩, trivial⟩, trivial⟩ ?_
              obtain ⟨r198, h198, E198, P198⟩ := r_find_2 (ws0 := ws0) (tb := tb) hws htb ext I65 J66 hI65 0 (I65 0 2) (J66 0 75) ⟨by omega, by omega⟩ ⟨by omega, by omega⟩ (by omega)
              obtain ⟨rfl, ⟨z198, rfl, q198⟩⟩ := P198
              refine gv_callS hD rfl (As := [.inr (.inr (some 2)), .inl 0, .inl (I65 0 2), .inr (.inl (J66 0 75))]) (st := []) rfl (gr_lS hws rfl) (Nat.le_of_ble_eq_true rfl) (gz_Ev_mono (d := 1) (by decide) E198) ?_
              show gv_X _ _ (147, [(0, .inr (.inr (some 0))), (1, .inr (.inl v1_16)), (3, .inl v3_24)], [.inl z198], gr_sh ++ ext, gr_h I65 J66)
              refine gv_run 2 true hD (pc' := 151) (lv' := [(4, .inl z198), (0, .inr (.inr (some 0))), (1, .inr (.inl v1_16)), (3, .inl v3_24)]) (st' := [.inl z198]) (h' := gr_h I65 J66) (C := ((True ∧ True) ∧ True)) rfl ⟨⟨trivial, trivial⟩, trivial⟩ ?_
              refine gv_if_ge (t := 160) hD rfl rfl ⟨by omega, by omega⟩ (fun c199 => ?_) (fun c199 => ?_)
              · refine gv_run 1 true hD (pc' := 161) (lv' := [(4, .inl z198), (0, .inr (.inr (some 0))), (1, .inr (.inl v1_16)), (3, .inl v3_24)]) (st' := [.inr (.inr (some 0))]) (h' := gr_h I65 J66) (C := (True ∧ True)) rfl ⟨trivial, trivial⟩ ?_
                obtain ⟨r200, h200, E200, P200⟩ := r_next (ws0 := ws0) (tb := tb) hws htb ext I65 J66 hI65   (by omega)
                obtain ⟨I201, J202, rfl, hI201, g200, k200, ⟨rfl, q200⟩⟩ := P200
                have FI201 := gr_frt FI65 g200 rfl rfl
                have FJ202 := gr_fjt FJ66 k200 rfl rfl
                have t203 := g200 0 69 rfl
                have t204 := g200 0 3 rfl
                have f205 := (show 0 ≤ I201 0 71 ∧ I201 0 71 ≤ 5 from (hI201 0 71).1)
                have f206 := (show 0 ≤ I201 0 72 ∧ I201 0 72 ≤ 1000 from (hI201 0 72).1)
                have f207 := (show 0 ≤ I201 0 73 ∧ I201 0 73 ≤ 1001 from (hI201 0 73).1)
                have f208 := (show 0 ≤ I201 0 69 ∧ I201 0 69 ≤ 1000 from (hI201 0 69).1)
                have f209 := (show 0 ≤ I201 0 3 ∧ I201 0 3 ≤ 96 from (hI201 0 3).1)
                have KGR_I201 := gr_GR_fr KGR_I65 (fun k => g200 19 k rfl) (fun k => g200 18 k rfl) (fun k => g200 36 k rfl) (fun k => g200 41 k rfl) (fun k => g200 42 k rfl) (fun k => g200 43 k rfl) (fun k => g200 45 k rfl) (fun k => g200 46 k rfl) (fun k => g200 47 k rfl) (fun k => g200 6 k rfl) (fun k => g200 7 k rfl) (fun k => g200 8 k rfl) (g200 0 3 rfl)
                have KST_I201 := gr_ST_fr KST_I65 (fun k => g200 6 k rfl) (fun k => g200 19 k rfl) (fun k => g200 18 k rfl) (fun k => g200 41 k rfl) (fun k => g200 36 k rfl) (g200 0 3 rfl)
                have KTO_I201 := gr_TO_fr KTO_I65 (fun k => g200 52 k rfl) (fun k => g200 53 k rfl) (fun k => g200 54 k rfl) (fun k => g200 55 k rfl) (fun k => g200 6 k rfl) (g200 0 64 rfl) (g200 0 3 rfl)
                have KFM_I201 := gr_FM_fr KFM_I65 (fun k => g200 10 k rfl) (fun k => g200 55 k rfl) (fun k => g200 52 k rfl) (fun k => g200 53 k rfl) (fun k => g200 54 k rfl) (g200 0 64 rfl) (g200 0 3 rfl)
                have KMQ_I201 := gr_MQ_fr KMQ_I65 (fun k => g200 10 k rfl) (fun k => g200 55 k rfl) (fun k => g200 52 k rfl) (fun k => g200 53 k rfl) (fun k => g200 54 k rfl) (fun k => g200 60 k rfl) (g200 0 64 rfl) (g200 0 3 rfl) (g200 0 99 rfl)
                refine gv_callV hD rfl (As := []) (st := []) rfl (by decide) rfl rfl (gr_lV hws rfl) (Nat.le_of_ble_eq_true rfl) (gz_Ev_mono (d := 10) (by decide) E200) ?_
                show gv_X _ _ (164, [(4, .inl z198), (0, .inr (.inr (some 0))), (1, .inr (.inl v1_16)), (3, .inl v3_24)], [], gr_sh ++ ext, gr_h I201 J202)
                refine gv_run 1 true hD (pc' := 165) (lv' := [(4, .inl z198), (0, .inr (.inr (some 0))), (1, .inr (.inl v1_16)), (3, .inl v3_24)]) (st' := [.inr (.inr (some 0))]) (h' := gr_h I201 J202) (C := (True ∧ True)) rfl ⟨trivial, trivial⟩ ?_
                obtain ⟨r210, h210, E210, P210⟩ := r_cost (ws0 := ws0) (tb := tb) hws htb ext I201 J202 hI201   (by omega) (by omega) (by omega) (by omega) (by omega)
                obtain ⟨I211, J212, rfl, hI211, g210, k210, ⟨z210, rfl, q210⟩⟩ := P210
                have FI211 := gr_frt FI201 g210 rfl rfl
                have FJ212 := gr_fjt FJ202 k210 rfl rfl
                have t213 := g210 0 69 rfl
                have t214 := g210 0 3 rfl
                have f215 := (show 0 ≤ I211 0 71 ∧ I211 0 71 ≤ 5 from (hI211 0 71).1)
                have f216 := (show 0 ≤ I211 0 72 ∧ I211 0 72 ≤ 1000 from (hI211 0 72).1)
                have f217 := (show 0 ≤ I211 0 73 ∧ I211 0 73 ≤ 1001 from (hI211 0 73).1)
                have f218 := (show 0 ≤ I211 0 69 ∧ I211 0 69 ≤ 1000 from (hI211 0 69).1)
                have f219 := (show 0 ≤ I211 0 3 ∧ I211 0 3 ≤ 96 from (hI211 0 3).1)
                have KGR_I211 := gr_GR_fr KGR_I201 (fun k => g210 19 k rfl) (fun k => g210 18 k rfl) (fun k => g210 36 k rfl) (fun k => g210 41 k rfl) (fun k => g210 42 k rfl) (fun k => g210 43 k rfl) (fun k => g210 45 k rfl) (fun k => g210 46 k rfl) (fun k => g210 47 k rfl) (fun k => g210 6 k rfl) (fun k => g210 7 k rfl) (fun k => g210 8 k rfl) (g210 0 3 rfl)
                have KST_I211 := gr_ST_fr KST_I201 (fun k => g210 6 k rfl) (fun k => g210 19 k rfl) (fun k => g210 18 k rfl) (fun k => g210 41 k rfl) (fun k => g210 36 k rfl) (g210 0 3 rfl)
                have KTO_I211 := gr_TO_fr KTO_I201 (fun k => g210 52 k rfl) (fun k => g210 53 k rfl) (fun k => g210 54 k rfl) (fun k => g210 55 k rfl) (fun k => g210 6 k rfl) (g210 0 64 rfl) (g210 0 3 rfl)
                have KFM_I211 := gr_FM_fr KFM_I201 (fun k => g210 10 k rfl) (fun k => g210 55 k rfl) (fun k => g210 52 k rfl) (fun k => g210 53 k rfl) (fun k => g210 54 k rfl) (g210 0 64 rfl) (g210 0 3 rfl)
                have KMQ_I211 := gr_MQ_fr KMQ_I201 (fun k => g210 10 k rfl) (fun k => g210 55 k rfl) (fun k => g210 52 k rfl) (fun k => g210 53 k rfl) (fun k => g210 54 k rfl) (fun k => g210 60 k rfl) (g210 0 64 rfl) (g210 0 3 rfl) (g210 0 99 rfl)
                refine gv_callV hD rfl (As := []) (st := []) rfl (by decide) rfl rfl (gr_lV hws rfl) (Nat.le_of_ble_eq_true rfl) (gz_Ev_mono (d := 11) (by decide) E210) ?_
                show gv_X _ _ (168, [(4, .inl z198), (0, .inr (.inr (some 0))), (1, .inr (.inl v1_16)), (3, .inl v3_24)], [.inl z210], gr_sh ++ ext, gr_h I211 J212)
                refine gv_if_eq (t := 192) hD rfl rfl ⟨by omega, by omega⟩ (fun c220 => ?_) (fun c220 => ?_)
                · refine gv_pick [] rfl ?_
                  exact L192 I211 J212 hI211 FI211 FJ212 KGR_I211 KST_I211 KTO_I211 KFM_I211 KMQ_I211 (by omega)
                · refine gv_pick [1, 2, 3, 0] rfl ?_
                  exact L171 I211 J212 z198 hI211 FI211 FJ212 KGR_I211 KST_I211 KTO_I211 KFM_I211 KMQ_I211 (by omega)
              · refine gv_run 2 true hD (pc' := 156) (lv' := [(4, .inl z198), (0, .inr (.inr (some 0))), (1, .inr (.inl v1_16)), (3, .inl v3_24)]) (st' := [.inl 5, .inr (.inr (some 0))]) (h' := gr_h I65 J66) (C := ((True ∧ True) ∧ True)) rfl ⟨⟨trivial, trivial⟩, trivial⟩ ?_
                obtain ⟨r221, h221, E221, P221⟩ := r_no_ (ws0 := ws0) (tb := tb) hws htb ext I65 J66 hI65 5 ⟨by omega, by omega⟩ 
                obtain ⟨I222, J223, rfl, hI222, g221, k221, ⟨z221, rfl, q221⟩⟩ := P221
                have FI222 := gr_frt FI65 g221 rfl rfl
                have FJ223 := gr_fjt FJ66 k221 rfl rfl
                have t224 := g221 0 71 rfl
                have t225 := g221 0 72 rfl
                have t226 := g221 0 73 rfl
                have t227 := g221 0 69 rfl
                have t228 := g221 0 3 rfl
                have f229 := (show 0 ≤ I222 0 71 ∧ I222 0 71 ≤ 5 from (hI222 0 71).1)
                have f230 := (show 0 ≤ I222 0 72 ∧ I222 0 72 ≤ 1000 from (hI222 0 72).1)
                have f231 := (show 0 ≤ I222 0 73 ∧ I222 0 73 ≤ 1001 from (hI222 0 73).1)
                have f232 := (show 0 ≤ I222 0 69 ∧ I222 0 69 ≤ 1000 from (hI222 0 69).1)
                have f233 := (show 0 ≤ I222 0 3 ∧ I222 0 3 ≤ 96 from (hI222 0 3).1)
                have KGR_I222 := gr_GR_fr KGR_I65 (fun k => g221 19 k rfl) (fun k => g221 18 k rfl) (fun k => g221 36 k rfl) (fun k => g221 41 k rfl) (fun k => g221 42 k rfl) (fun k => g221 43 k rfl) (fun k => g221 45 k rfl) (fun k => g221 46 k rfl) (fun k => g221 47 k rfl) (fun k => g221 6 k rfl) (fun k => g221 7 k rfl) (fun k => g221 8 k rfl) (g221 0 3 rfl)
                have KST_I222 := gr_ST_fr KST_I65 (fun k => g221 6 k rfl) (fun k => g221 19 k rfl) (fun k => g221 18 k rfl) (fun k => g221 41 k rfl) (fun k => g221 36 k rfl) (g221 0 3 rfl)
                have KTO_I222 := gr_TO_fr KTO_I65 (fun k => g221 52 k rfl) (fun k => g221 53 k rfl) (fun k => g221 54 k rfl) (fun k => g221 55 k rfl) (fun k => g221 6 k rfl) (g221 0 64 rfl) (g221 0 3 rfl)
                have KFM_I222 := gr_FM_fr KFM_I65 (fun k => g221 10 k rfl) (fun k => g221 55 k rfl) (fun k => g221 52 k rfl) (fun k => g221 53 k rfl) (fun k => g221 54 k rfl) (g221 0 64 rfl) (g221 0 3 rfl)
                have KMQ_I222 := gr_MQ_fr KMQ_I65 (fun k => g221 10 k rfl) (fun k => g221 55 k rfl) (fun k => g221 52 k rfl) (fun k => g221 53 k rfl) (fun k => g221 54 k rfl) (fun k => g221 60 k rfl) (g221 0 64 rfl) (g221 0 3 rfl) (g221 0 99 rfl)
                refine gv_callV hD rfl (As := [.inl 5]) (st := []) rfl (by decide) rfl rfl (gr_lV hws rfl) (Nat.le_of_ble_eq_true rfl) (gz_Ev_mono (d := 2) (by decide) E221) ?_
                show gv_X _ _ (159, [(4, .inl z198), (0, .inr (.inr (some 0))), (1, .inr (.inl v1_16)), (3, .inl v3_24)], [.inl z221], gr_sh ++ ext, gr_h I222 J223)
                exact gv_zret hD rfl (by omega) ⟨I222, J223, rfl, hI222, FI222, FJ223, KGR_I222, KST_I222, KTO_I222, KFM_I222, KMQ_I222, ⟨_, rfl, by omega⟩⟩
            refine gv_run 1 true hD (pc' := 123) (lv' := [(0, .inr (.inr (some 0))), (1, .inr (.inl v1_16)), (3, .inl v3_24)]) (st' := [.inr (.inr (some 0))]) (h' := gr_h I57 J58) (C := (True ∧ True)) rfl ⟨trivial, trivial⟩ ?_
            obtain ⟨r234, h234, E234, P234⟩ := r_name (ws0 := ws0) (tb := tb) hws htb ext I57 J58 hI57   
            obtain ⟨I235, J236, rfl, hI235, g234, k234, ⟨z234, rfl, q234⟩⟩ := P234
            have FI235 := gr_frt FI57 g234 rfl rfl
            have FJ236 := gr_fjt FJ58 k234 rfl rfl
            have t237 := g234 0 71 rfl
            have t238 := g234 0 72 rfl
            have t239 := g234 0 73 rfl
            have t240 := g234 0 69 rfl
            have t241 := g234 0 3 rfl
            have f242 := (show 0 ≤ I235 0 71 ∧ I235 0 71 ≤ 5 from (hI235 0 71).1)
            have f243 := (show 0 ≤ I235 0 72 ∧ I235 0 72 ≤ 1000 from (hI235 0 72).1)
            have f244 := (show 0 ≤ I235 0 73 ∧ I235 0 73 ≤ 1001 from (hI235 0 73).1)
            have f245 := (show 0 ≤ I235 0 69 ∧ I235 0 69 ≤ 1000 from (hI235 0 69).1)
            have f246 := (show 0 ≤ I235 0 3 ∧ I235 0 3 ≤ 96 from (hI235 0 3).1)
            have KGR_I235 := gr_GR_fr KGR_I57 (fun k => g234 19 k rfl) (fun k => g234 18 k rfl) (fun k => g234 36 k rfl) (fun k => g234 41 k rfl) (fun k => g234 42 k rfl) (fun k => g234 43 k rfl) (fun k => g234 45 k rfl) (fun k => g234 46 k rfl) (fun k => g234 47 k rfl) (fun k => g234 6 k rfl) (fun k => g234 7 k rfl) (fun k => g234 8 k rfl) (g234 0 3 rfl)
            have KST_I235 := gr_ST_fr KST_I57 (fun k => g234 6 k rfl) (fun k => g234 19 k rfl) (fun k => g234 18 k rfl) (fun k => g234 41 k rfl) (fun k => g234 36 k rfl) (g234 0 3 rfl)
            have KTO_I235 := gr_TO_fr KTO_I57 (fun k => g234 52 k rfl) (fun k => g234 53 k rfl) (fun k => g234 54 k rfl) (fun k => g234 55 k rfl) (fun k => g234 6 k rfl) (g234 0 64 rfl) (g234 0 3 rfl)
            have KFM_I235 := gr_FM_fr KFM_I57 (fun k => g234 10 k rfl) (fun k => g234 55 k rfl) (fun k => g234 52 k rfl) (fun k => g234 53 k rfl) (fun k => g234 54 k rfl) (g234 0 64 rfl) (g234 0 3 rfl)
            have KMQ_I235 := gr_MQ_fr KMQ_I57 (fun k => g234 10 k rfl) (fun k => g234 55 k rfl) (fun k => g234 52 k rfl) (fun k => g234 53 k rfl) (fun k => g234 54 k rfl) (fun k => g234 60 k rfl) (g234 0 64 rfl) (g234 0 3 rfl) (g234 0 99 rfl)
            refine gv_callV hD rfl (As := []) (st := []) rfl (by decide) rfl rfl (gr_lV hws rfl) (Nat.le_of_ble_eq_true rfl) (gz_Ev_mono (d := 3) (by decide) E234) ?_
            show gv_X _ _ (126, [(0, .inr (.inr (some 0))), (1, .inr (.inl v1_16)), (3, .inl v3_24)], [.inl z234], gr_sh ++ ext, gr_h I235 J236)
            refine gv_if_ne (t := 131) hD rfl rfl ⟨by omega, by omega⟩ (fun c247 => ?_) (fun c247 => ?_)
            · exact L131 I235 J236 hI235 FI235 FJ236 KGR_I235 KST_I235 KTO_I235 KFM_I235 KMQ_I235 (by omega)
            · refine gv_pick [] rfl ?_
              exact L129 I235 J236 hI235 FI235 FJ236 KGR_I235 KST_I235 KTO_I235 KFM_I235 KMQ_I235 (by omega)
          have f248 := (show 0 ≤ I22 0 71 ∧ I22 0 71 ≤ 5 from (hI22 0 71).1)
          refine gv_run 3 true hD (pc' := 58) (lv' := [(0, .inr (.inr (some 0))), (1, .inr (.inl v1_16)), (3, .inl v3_24)]) (st' := [.inl 1, .inl (I22 0 71)]) (h' := gr_h I22 J23) (C := (((True ∧ True) ∧ True) ∧ True)) rfl ⟨⟨⟨trivial, trivial⟩, trivial⟩, trivial⟩ ?_
          refine gv_icmp_ne (t := 113) hD rfl rfl ⟨⟨by omega, by omega⟩, ⟨by omega, by omega⟩⟩ (fun c249 => ?_) (fun c249 => ?_)
          · refine gv_run 2 true hD (pc' := 116) (lv' := [(0, .inr (.inr (some 0))), (1, .inr (.inl v1_16)), (3, .inl v3_24)]) (st' := [.inl 62, .inr (.inr (some 0))]) (h' := gr_h I22 J23) (C := ((True ∧ True) ∧ True)) rfl ⟨⟨trivial, trivial⟩, trivial⟩ ?_
            obtain ⟨r250, h250, E250, P250⟩ := r_need (ws0 := ws0) (tb := tb) hws htb ext I22 J23 hI22 62 ⟨by omega, by omega⟩ (by omega) (by omega) (by omega) (by omega) (by omega)
            obtain ⟨I251, J252, rfl, hI251, g250, k250, ⟨z250, rfl, q250⟩⟩ := P250
            have FI251 := gr_frt FI22 g250 rfl rfl
            have FJ252 := gr_fjt FJ23 k250 rfl rfl
            have t253 := g250 0 69 rfl
            have t254 := g250 0 3 rfl
            have f255 := (show 0 ≤ I251 0 71 ∧ I251 0 71 ≤ 5 from (hI251 0 71).1)
            have f256 := (show 0 ≤ I251 0 72 ∧ I251 0 72 ≤ 1000 from (hI251 0 72).1)
            have f257 := (show 0 ≤ I251 0 73 ∧ I251 0 73 ≤ 1001 from (hI251 0 73).1)
            have f258 := (show 0 ≤ I251 0 69 ∧ I251 0 69 ≤ 1000 from (hI251 0 69).1)
            have f259 := (show 0 ≤ I251 0 3 ∧ I251 0 3 ≤ 96 from (hI251 0 3).1)
            have KGR_I251 := gr_GR_fr KGR_I22 (fun k => g250 19 k rfl) (fun k => g250 18 k rfl) (fun k => g250 36 k rfl) (fun k => g250 41 k rfl) (fun k => g250 42 k rfl) (fun k => g250 43 k rfl) (fun k => g250 45 k rfl) (fun k => g250 46 k rfl) (fun k => g250 47 k rfl) (fun k => g250 6 k rfl) (fun k => g250 7 k rfl) (fun k => g250 8 k rfl) (g250 0 3 rfl)
            have KST_I251 := gr_ST_fr KST_I22 (fun k => g250 6 k rfl) (fun k => g250 19 k rfl) (fun k => g250 18 k rfl) (fun k => g250 41 k rfl) (fun k => g250 36 k rfl) (g250 0 3 rfl)
            have KTO_I251 := gr_TO_fr KTO_I22 (fun k => g250 52 k rfl) (fun k => g250 53 k rfl) (fun k => g250 54 k rfl) (fun k => g250 55 k rfl) (fun k => g250 6 k rfl) (g250 0 64 rfl) (g250 0 3 rfl)
            have KFM_I251 := gr_FM_fr KFM_I22 (fun k => g250 10 k rfl) (fun k => g250 55 k rfl) (fun k => g250 52 k rfl) (fun k => g250 53 k rfl) (fun k => g250 54 k rfl) (g250 0 64 rfl) (g250 0 3 rfl)
            have KMQ_I251 := gr_MQ_fr KMQ_I22 (fun k => g250 10 k rfl) (fun k => g250 55 k rfl) (fun k => g250 52 k rfl) (fun k => g250 53 k rfl) (fun k => g250 54 k rfl) (fun k => g250 60 k rfl) (g250 0 64 rfl) (g250 0 3 rfl) (g250 0 99 rfl)
            refine gv_callV hD rfl (As := [.inl 62]) (st := []) rfl (by decide) rfl rfl (gr_lV hws rfl) (Nat.le_of_ble_eq_true rfl) (gz_Ev_mono (d := 11) (by decide) E250) ?_
            show gv_X _ _ (119, [(0, .inr (.inr (some 0))), (1, .inr (.inl v1_16)), (3, .inl v3_24)], [.inl z250], gr_sh ++ ext, gr_h I251 J252)
            refine gv_if_eq (t := 129) hD rfl rfl ⟨by omega, by omega⟩ (fun c260 => ?_) (fun c260 => ?_)
            · refine gv_pick [] rfl ?_
              exact L129 I251 J252 hI251 FI251 FJ252 KGR_I251 KST_I251 KTO_I251 KFM_I251 KMQ_I251 (by omega)
            · exact L122 I251 J252 hI251 FI251 FJ252 KGR_I251 KST_I251 KTO_I251 KFM_I251 KMQ_I251 (by omega)
          · have f261 := (show 0 ≤ I22 0 2 ∧ I22 0 2 ≤ 32 from (hI22 0 2).1)
            refine gv_run 7 true hD (pc' := 74) (lv' := [(0, .inr (.inr (some 0))), (1, .inr (.inl v1_16)), (3, .inl v3_24)]) (st' := [.inr (.inl (J23 0 75)), .inl (I22 0 2), .inl 0, .inr (.inr (some 2))]) (h' := gr_h I22 J23) (C := (((((((True ∧ True) ∧ True) ∧ True) ∧ True) ∧ True) ∧ True) ∧ True)) rfl ⟨⟨⟨⟨⟨⟨⟨trivial, trivial⟩, trivial⟩, trivial⟩, trivial⟩, trivial⟩, trivial⟩, trivial⟩ ?_
            obtain ⟨r262, h262, E262, P262⟩ := r_find_2 (ws0 := ws0) (tb := tb) hws htb ext I22 J23 hI22 0 (I22 0 2) (J23 0 75) ⟨by omega, by omega⟩ ⟨by omega, by omega⟩ (by omega)
            obtain ⟨rfl, ⟨z262, rfl, q262⟩⟩ := P262
            refine gv_callS hD rfl (As := [.inr (.inr (some 2)), .inl 0, .inl (I22 0 2), .inr (.inl (J23 0 75))]) (st := []) rfl (gr_lS hws rfl) (Nat.le_of_ble_eq_true rfl) (gz_Ev_mono (d := 1) (by decide) E262) ?_
            show gv_X _ _ (77, [(0, .inr (.inr (some 0))), (1, .inr (.inl v1_16)), (3, .inl v3_24)], [.inl z262], gr_sh ++ ext, gr_h I22 J23)
            refine gv_run 2 true hD (pc' := 81) (lv' := [(4, .inl z262), (0, .inr (.inr (some 0))), (1, .inr (.inl v1_16)), (3, .inl v3_24)]) (st' := [.inl z262]) (h' := gr_h I22 J23) (C := ((True ∧ True) ∧ True)) rfl ⟨⟨trivial, trivial⟩, trivial⟩ ?_
            refine gv_if_lt (t := 89) hD rfl rfl ⟨by omega, by omega⟩ (fun c263 => ?_) (fun c263 => ?_)
            · refine gv_pick [1] rfl ?_
              exact L89 (by omega)
            · refine gv_run 2 true hD (pc' := 86) (lv' := [(4, .inl z262), (0, .inr (.inr (some 0))), (1, .inr (.inl v1_16)), (3, .inl v3_24)]) (st' := [.inl 4, .inl v3_24]) (h' := gr_h I22 J23) (C := ((True ∧ True) ∧ True)) rfl ⟨⟨trivial, trivial⟩, trivial⟩ ?_
              refine gv_icmp_ne (t := 95) hD rfl rfl ⟨⟨by omega, by omega⟩, ⟨by omega, by omega⟩⟩ (fun c264 => ?_) (fun c264 => ?_)
              · refine gv_run 5 true hD (pc' := 105) (lv' := [(3, .inl (v3_24 + 1)), (4, .inl z262), (0, .inr (.inr (some 0))), (1, .inr (.inl v1_16))]) (st' := [.inl z262, .inl v3_24, .inr (.inr (some 61))]) (h' := gr_h I22 J23) (C := (((((True ∧ True) ∧ True) ∧ True) ∧ True) ∧ True)) rfl ⟨⟨⟨⟨⟨trivial, trivial⟩, trivial⟩, trivial⟩, trivial⟩, trivial⟩ ?_
                refine gv_run 1 true hD (pc' := 106) (lv' := [(3, .inl (v3_24 + 1)), (4, .inl z262), (0, .inr (.inr (some 0))), (1, .inr (.inl v1_16))]) (st' := []) (h' := gz_up (gr_h I22 J23) 61 (Int.toNat v3_24) (.inl z262)) (C := (True ∧ (0 ≤ v3_24 ∧ v3_24 < ((4 : Nat) : Int)))) rfl ⟨trivial, ⟨by omega, by omega⟩⟩ ?_
                refine gr_st hI22 FI22 rfl rfl ⟨⟨by show 0 ≤ _; omega, by show _ ≤ 31; omega⟩, trivial⟩ (fun I265 hI265 FI265 q266 p266 => ?_)
                have t267 := p266 0 71 (fun q => absurd q.1 (by decide))
                have t268 := p266 0 72 (fun q => absurd q.1 (by decide))
                have t269 := p266 0 73 (fun q => absurd q.1 (by decide))
                have t270 := p266 0 69 (fun q => absurd q.1 (by decide))
                have t271 := p266 0 3 (fun q => absurd q.1 (by decide))
                have f272 := (show 0 ≤ I265 0 71 ∧ I265 0 71 ≤ 5 from (hI265 0 71).1)
                have f273 := (show 0 ≤ I265 0 72 ∧ I265 0 72 ≤ 1000 from (hI265 0 72).1)
                have f274 := (show 0 ≤ I265 0 73 ∧ I265 0 73 ≤ 1001 from (hI265 0 73).1)
                have f275 := (show 0 ≤ I265 0 69 ∧ I265 0 69 ≤ 1000 from (hI265 0 69).1)
                have f276 := (show 0 ≤ I265 0 3 ∧ I265 0 3 ≤ 96 from (hI265 0 3).1)
                have KGR_I265 := gr_GR_fr KGR_I22 (fun k => p266 19 k (fun q => absurd q.1 (by decide))) (fun k => p266 18 k (fun q => absurd q.1 (by decide))) (fun k => p266 36 k (fun q => absurd q.1 (by decide))) (fun k => p266 41 k (fun q => absurd q.1 (by decide))) (fun k => p266 42 k (fun q => absurd q.1 (by decide))) (fun k => p266 43 k (fun q => absurd q.1 (by decide))) (fun k => p266 45 k (fun q => absurd q.1 (by decide))) (fun k => p266 46 k (fun q => absurd q.1 (by decide))) (fun k => p266 47 k (fun q => absurd q.1 (by decide))) (fun k => p266 6 k (fun q => absurd q.1 (by decide))) (fun k => p266 7 k (fun q => absurd q.1 (by decide))) (fun k => p266 8 k (fun q => absurd q.1 (by decide))) (p266 0 3 (fun q => absurd q.1 (by decide)))
                have KST_I265 := gr_ST_fr KST_I22 (fun k => p266 6 k (fun q => absurd q.1 (by decide))) (fun k => p266 19 k (fun q => absurd q.1 (by decide))) (fun k => p266 18 k (fun q => absurd q.1 (by decide))) (fun k => p266 41 k (fun q => absurd q.1 (by decide))) (fun k => p266 36 k (fun q => absurd q.1 (by decide))) (p266 0 3 (fun q => absurd q.1 (by decide)))
                have KTO_I265 := gr_TO_fr KTO_I22 (fun k => p266 52 k (fun q => absurd q.1 (by decide))) (fun k => p266 53 k (fun q => absurd q.1 (by decide))) (fun k => p266 54 k (fun q => absurd q.1 (by decide))) (fun k => p266 55 k (fun q => absurd q.1 (by decide))) (fun k => p266 6 k (fun q => absurd q.1 (by decide))) (p266 0 64 (fun q => absurd q.1 (by decide))) (p266 0 3 (fun q => absurd q.1 (by decide)))
                have KFM_I265 := gr_FM_fr KFM_I22 (fun k => p266 10 k (fun q => absurd q.1 (by decide))) (fun k => p266 55 k (fun q => absurd q.1 (by decide))) (fun k => p266 52 k (fun q => absurd q.1 (by decide))) (fun k => p266 53 k (fun q => absurd q.1 (by decide))) (fun k => p266 54 k (fun q => absurd q.1 (by decide))) (p266 0 64 (fun q => absurd q.1 (by decide))) (p266 0 3 (fun q => absurd q.1 (by decide)))
                have KMQ_I265 := gr_MQ_fr KMQ_I22 (fun k => p266 10 k (fun q => absurd q.1 (by decide))) (fun k => p266 55 k (fun q => absurd q.1 (by decide))) (fun k => p266 52 k (fun q => absurd q.1 (by decide))) (fun k => p266 53 k (fun q => absurd q.1 (by decide))) (fun k => p266 54 k (fun q => absurd q.1 (by decide))) (fun k => p266 60 k (fun q => absurd q.1 (by decide))) (p266 0 64 (fun q => absurd q.1 (by decide))) (p266 0 3 (fun q => absurd q.1 (by decide))) (p266 0 99 (fun q => absurd q.1 (by decide)))
                refine gv_run 1 true hD (pc' := 107) (lv' := [(3, .inl (v3_24 + 1)), (4, .inl z262), (0, .inr (.inr (some 0))), (1, .inr (.inl v1_16))]) (st' := [.inr (.inr (some 0))]) (h' := gr_h I265 J23) (C := (True ∧ True)) rfl ⟨trivial, trivial⟩ ?_
                obtain ⟨r277, h277, E277, P277⟩ := r_next (ws0 := ws0) (tb := tb) hws htb ext I265 J23 hI265   (by omega)
                obtain ⟨I278, J279, rfl, hI278, g277, k277, ⟨rfl, q277⟩⟩ := P277
                have FI278 := gr_frt FI265 g277 rfl rfl
                have FJ279 := gr_fjt FJ23 k277 rfl rfl
                have t280 := g277 0 69 rfl
                have t281 := g277 0 3 rfl
                have f282 := (show 0 ≤ I278 0 71 ∧ I278 0 71 ≤ 5 from (hI278 0 71).1)
                have f283 := (show 0 ≤ I278 0 72 ∧ I278 0 72 ≤ 1000 from (hI278 0 72).1)
                have f284 := (show 0 ≤ I278 0 73 ∧ I278 0 73 ≤ 1001 from (hI278 0 73).1)
                have f285 := (show 0 ≤ I278 0 69 ∧ I278 0 69 ≤ 1000 from (hI278 0 69).1)
                have f286 := (show 0 ≤ I278 0 3 ∧ I278 0 3 ≤ 96 from (hI278 0 3).1)
                have KGR_I278 := gr_GR_fr KGR_I265 (fun k => g277 19 k rfl) (fun k => g277 18 k rfl) (fun k => g277 36 k rfl) (fun k => g277 41 k rfl) (fun k => g277 42 k rfl) (fun k => g277 43 k rfl) (fun k => g277 45 k rfl) (fun k => g277 46 k rfl) (fun k => g277 47 k rfl) (fun k => g277 6 k rfl) (fun k => g277 7 k rfl) (fun k => g277 8 k rfl) (g277 0 3 rfl)
                have KST_I278 := gr_ST_fr KST_I265 (fun k => g277 6 k rfl) (fun k => g277 19 k rfl) (fun k => g277 18 k rfl) (fun k => g277 41 k rfl) (fun k => g277 36 k rfl) (g277 0 3 rfl)
                have KTO_I278 := gr_TO_fr KTO_I265 (fun k => g277 52 k rfl) (fun k => g277 53 k rfl) (fun k => g277 54 k rfl) (fun k => g277 55 k rfl) (fun k => g277 6 k rfl) (g277 0 64 rfl) (g277 0 3 rfl)
                have KFM_I278 := gr_FM_fr KFM_I265 (fun k => g277 10 k rfl) (fun k => g277 55 k rfl) (fun k => g277 52 k rfl) (fun k => g277 53 k rfl) (fun k => g277 54 k rfl) (g277 0 64 rfl) (g277 0 3 rfl)
                have KMQ_I278 := gr_MQ_fr KMQ_I265 (fun k => g277 10 k rfl) (fun k => g277 55 k rfl) (fun k => g277 52 k rfl) (fun k => g277 53 k rfl) (fun k => g277 54 k rfl) (fun k => g277 60 k rfl) (g277 0 64 rfl) (g277 0 3 rfl) (g277 0 99 rfl)
                refine gv_callV hD rfl (As := []) (st := []) rfl (by decide) rfl rfl (gr_lV hws rfl) (Nat.le_of_ble_eq_true rfl) (gz_Ev_mono (d := 10) (by decide) E277) ?_
                show gv_X _ _ (110, [(3, .inl (v3_24 + 1)), (4, .inl z262), (0, .inr (.inr (some 0))), (1, .inr (.inl v1_16))], [], gr_sh ++ ext, gr_h I278 J279)
                refine gv_run 1 true hD (pc' := 53) (lv' := [(3, .inl (v3_24 + 1)), (4, .inl z262), (0, .inr (.inr (some 0))), (1, .inr (.inl v1_16))]) (st' := []) (h' := gr_h I278 J279) (C := (True ∧ True)) rfl ⟨trivial, trivial⟩ ?_
                refine gv_pick [2, 3, 0] rfl ?_
                exact ih53 I278 J279 (v3_24 + 1) (by omega) hI278 FI278 FJ279 KGR_I278 KST_I278 KTO_I278 KFM_I278 KMQ_I278 (by omega)
              · refine gv_pick [1] rfl ?_
                exact L89 (by omega)
      refine gv_run 2 true hD (pc' := 53) (lv' := [(3, .inl 0), (0, .inr (.inr (some 0))), (1, .inr (.inl v1_16))]) (st' := []) (h' := gr_h I14 J15) (C := ((True ∧ True) ∧ True)) rfl ⟨⟨trivial, trivial⟩, trivial⟩ ?_
      refine gv_pick [1, 2, 0] rfl ?_
      exact L53 _ I14 J15 0 (Nat.lt_succ_self _) hI14 FI14 FJ15 KGR_I14 KST_I14 KTO_I14 KFM_I14 KMQ_I14 (by omega)
    refine gv_run 7 true hD (pc' := 20) (lv' := [(1, .inr (.inl (J7 0 75))), (0, .inr (.inr (some 0)))]) (st' := [.inr (.inr (some 0)), .inl 0, .inr (.inr (some 3))]) (h' := gr_h I6 J7) (C := (((((((True ∧ True) ∧ True) ∧ True) ∧ True) ∧ True) ∧ True) ∧ True)) rfl ⟨⟨⟨⟨⟨⟨⟨trivial, trivial⟩, trivial⟩, trivial⟩, trivial⟩, trivial⟩, trivial⟩, trivial⟩ ?_
    have f287 := (show 0 ≤ I6 0 3 ∧ I6 0 3 ≤ 96 from (hI6 0 3).1)
    refine gv_run 2 true hD (pc' := 24) (lv' := [(1, .inr (.inl (J7 0 75))), (0, .inr (.inr (some 0)))]) (st' := [.inr (.inl (J7 0 75)), .inl (I6 0 3), .inl 0, .inr (.inr (some 3))]) (h' := gr_h I6 J7) (C := ((True ∧ True) ∧ True)) rfl ⟨⟨trivial, trivial⟩, trivial⟩ ?_
    obtain ⟨r288, h288, E288, P288⟩ := r_find_3 (ws0 := ws0) (tb := tb) hws htb ext I6 J7 hI6 0 (I6 0 3) (J7 0 75) ⟨by omega, by omega⟩ ⟨by omega, by omega⟩ (by omega)
    obtain ⟨rfl, ⟨z288, rfl, q288⟩⟩ := P288
    refine gv_callS hD rfl (As := [.inr (.inr (some 3)), .inl 0, .inl (I6 0 3), .inr (.inl (J7 0 75))]) (st := []) rfl (gr_lS hws rfl) (Nat.le_of_ble_eq_true rfl) (gz_Ev_mono (d := 1) (by decide) E288) ?_
    show gv_X _ _ (27, [(1, .inr (.inl (J7 0 75))), (0, .inr (.inr (some 0)))], [.inl z288], gr_sh ++ ext, gr_h I6 J7)
    refine gv_if_lt (t := 36) hD rfl rfl ⟨by omega, by omega⟩ (fun c289 => ?_) (fun c289 => ?_)
    · refine gv_run 1 true hD (pc' := 37) (lv' := [(1, .inr (.inl (J7 0 75))), (0, .inr (.inr (some 0)))]) (st' := [.inr (.inr (some 0))]) (h' := gr_h I6 J7) (C := (True ∧ True)) rfl ⟨trivial, trivial⟩ ?_
      obtain ⟨r290, h290, E290, P290⟩ := r_next (ws0 := ws0) (tb := tb) hws htb ext I6 J7 hI6   (by omega)
      obtain ⟨I291, J292, rfl, hI291, g290, k290, ⟨rfl, q290⟩⟩ := P290
      have FI291 := gr_frt FI6 g290 rfl rfl
      have FJ292 := gr_fjt FJ7 k290 rfl rfl
      have t293 := g290 0 69 rfl
      have t294 := g290 0 3 rfl
      have f295 := (show 0 ≤ I291 0 71 ∧ I291 0 71 ≤ 5 from (hI291 0 71).1)
      have f296 := (show 0 ≤ I291 0 72 ∧ I291 0 72 ≤ 1000 from (hI291 0 72).1)
      have f297 := (show 0 ≤ I291 0 73 ∧ I291 0 73 ≤ 1001 from (hI291 0 73).1)
      have f298 := (show 0 ≤ I291 0 69 ∧ I291 0 69 ≤ 1000 from (hI291 0 69).1)
      have f299 := (show 0 ≤ I291 0 3 ∧ I291 0 3 ≤ 96 from (hI291 0 3).1)
      have KGR_I291 := gr_GR_fr KGR_I6 (fun k => g290 19 k rfl) (fun k => g290 18 k rfl) (fun k => g290 36 k rfl) (fun k => g290 41 k rfl) (fun k => g290 42 k rfl) (fun k => g290 43 k rfl) (fun k => g290 45 k rfl) (fun k => g290 46 k rfl) (fun k => g290 47 k rfl) (fun k => g290 6 k rfl) (fun k => g290 7 k rfl) (fun k => g290 8 k rfl) (g290 0 3 rfl)
      have KST_I291 := gr_ST_fr KST_I6 (fun k => g290 6 k rfl) (fun k => g290 19 k rfl) (fun k => g290 18 k rfl) (fun k => g290 41 k rfl) (fun k => g290 36 k rfl) (g290 0 3 rfl)
      have KTO_I291 := gr_TO_fr KTO_I6 (fun k => g290 52 k rfl) (fun k => g290 53 k rfl) (fun k => g290 54 k rfl) (fun k => g290 55 k rfl) (fun k => g290 6 k rfl) (g290 0 64 rfl) (g290 0 3 rfl)
      have KFM_I291 := gr_FM_fr KFM_I6 (fun k => g290 10 k rfl) (fun k => g290 55 k rfl) (fun k => g290 52 k rfl) (fun k => g290 53 k rfl) (fun k => g290 54 k rfl) (g290 0 64 rfl) (g290 0 3 rfl)
      have KMQ_I291 := gr_MQ_fr KMQ_I6 (fun k => g290 10 k rfl) (fun k => g290 55 k rfl) (fun k => g290 52 k rfl) (fun k => g290 53 k rfl) (fun k => g290 54 k rfl) (fun k => g290 60 k rfl) (g290 0 64 rfl) (g290 0 3 rfl) (g290 0 99 rfl)
      refine gv_callV hD rfl (As := []) (st := []) rfl (by decide) rfl rfl (gr_lV hws rfl) (Nat.le_of_ble_eq_true rfl) (gz_Ev_mono (d := 10) (by decide) E290) ?_
      show gv_X _ _ (40, [(1, .inr (.inl (J7 0 75))), (0, .inr (.inr (some 0)))], [], gr_sh ++ ext, gr_h I291 J292)
      refine gv_run 2 true hD (pc' := 43) (lv' := [(1, .inr (.inl (J7 0 75))), (0, .inr (.inr (some 0)))]) (st' := [.inl 58, .inr (.inr (some 0))]) (h' := gr_h I291 J292) (C := ((True ∧ True) ∧ True)) rfl ⟨⟨trivial, trivial⟩, trivial⟩ ?_
      obtain ⟨r300, h300, E300, P300⟩ := r_need (ws0 := ws0) (tb := tb) hws htb ext I291 J292 hI291 58 ⟨by omega, by omega⟩ (by omega) (by omega) (by omega) (by omega) (by omega)
      obtain ⟨I301, J302, rfl, hI301, g300, k300, ⟨z300, rfl, q300⟩⟩ := P300
      have FI301 := gr_frt FI291 g300 rfl rfl
      have FJ302 := gr_fjt FJ292 k300 rfl rfl
      have t303 := g300 0 69 rfl
      have t304 := g300 0 3 rfl
      have f305 := (show 0 ≤ I301 0 71 ∧ I301 0 71 ≤ 5 from (hI301 0 71).1)
      have f306 := (show 0 ≤ I301 0 72 ∧ I301 0 72 ≤ 1000 from (hI301 0 72).1)
      have f307 := (show 0 ≤ I301 0 73 ∧ I301 0 73 ≤ 1001 from (hI301 0 73).1)
      have f308 := (show 0 ≤ I301 0 69 ∧ I301 0 69 ≤ 1000 from (hI301 0 69).1)
      have f309 := (show 0 ≤ I301 0 3 ∧ I301 0 3 ≤ 96 from (hI301 0 3).1)
      have KGR_I301 := gr_GR_fr KGR_I291 (fun k => g300 19 k rfl) (fun k => g300 18 k rfl) (fun k => g300 36 k rfl) (fun k => g300 41 k rfl) (fun k => g300 42 k rfl) (fun k => g300 43 k rfl) (fun k => g300 45 k rfl) (fun k => g300 46 k rfl) (fun k => g300 47 k rfl) (fun k => g300 6 k rfl) (fun k => g300 7 k rfl) (fun k => g300 8 k rfl) (g300 0 3 rfl)
      have KST_I301 := gr_ST_fr KST_I291 (fun k => g300 6 k rfl) (fun k => g300 19 k rfl) (fun k => g300 18 k rfl) (fun k => g300 41 k rfl) (fun k => g300 36 k rfl) (g300 0 3 rfl)
      have KTO_I301 := gr_TO_fr KTO_I291 (fun k => g300 52 k rfl) (fun k => g300 53 k rfl) (fun k => g300 54 k rfl) (fun k => g300 55 k rfl) (fun k => g300 6 k rfl) (g300 0 64 rfl) (g300 0 3 rfl)
      have KFM_I301 := gr_FM_fr KFM_I291 (fun k => g300 10 k rfl) (fun k => g300 55 k rfl) (fun k => g300 52 k rfl) (fun k => g300 53 k rfl) (fun k => g300 54 k rfl) (g300 0 64 rfl) (g300 0 3 rfl)
      have KMQ_I301 := gr_MQ_fr KMQ_I291 (fun k => g300 10 k rfl) (fun k => g300 55 k rfl) (fun k => g300 52 k rfl) (fun k => g300 53 k rfl) (fun k => g300 54 k rfl) (fun k => g300 60 k rfl) (g300 0 64 rfl) (g300 0 3 rfl) (g300 0 99 rfl)
      refine gv_callV hD rfl (As := [.inl 58]) (st := []) rfl (by decide) rfl rfl (gr_lV hws rfl) (Nat.le_of_ble_eq_true rfl) (gz_Ev_mono (d := 11) (by decide) E300) ?_
      show gv_X _ _ (46, [(1, .inr (.inl (J7 0 75))), (0, .inr (.inr (some 0)))], [.inl z300], gr_sh ++ ext, gr_h I301 J302)
      refine gv_if_ne (t := 51) hD rfl rfl ⟨by omega, by omega⟩ (fun c310 => ?_) (fun c310 => ?_)
      · refine gv_pick [1, 0] rfl ?_
        exact L51 I301 J302 (J7 0 75) hI301 FI301 FJ302 KGR_I301 KST_I301 KTO_I301 KFM_I301 KMQ_I301 (by omega)
      · refine gv_run 1 true hD (pc' := 50) (lv' := [(1, .inr (.inl (J7 0 75))), (0, .inr (.inr (some 0)))]) (st' := [.inl 0]) (h' := gr_h I301 J302) (C := (True ∧ True)) rfl ⟨trivial, trivial⟩ ?_
        exact gv_zret hD rfl (by omega) ⟨I301, J302, rfl, hI301, FI301, FJ302, KGR_I301, KST_I301, KTO_I301, KFM_I301, KMQ_I301, ⟨_, rfl, by omega⟩⟩
    · refine gv_run 2 true hD (pc' := 32) (lv' := [(1, .inr (.inl (J7 0 75))), (0, .inr (.inr (some 0)))]) (st' := [.inl 4, .inr (.inr (some 0))]) (h' := gr_h I6 J7) (C := ((True ∧ True) ∧ True)) rfl ⟨⟨trivial, trivial⟩, trivial⟩ ?_
      obtain ⟨r311, h311, E311, P311⟩ := r_no_ (ws0 := ws0) (tb := tb) hws htb ext I6 J7 hI6 4 ⟨by omega, by omega⟩ 
      obtain ⟨I312, J313, rfl, hI312, g311, k311, ⟨z311, rfl, q311⟩⟩ := P311
      have FI312 := gr_frt FI6 g311 rfl rfl
      have FJ313 := gr_fjt FJ7 k311 rfl rfl
      have t314 := g311 0 71 rfl
      have t315 := g311 0 72 rfl
      have t316 := g311 0 73 rfl
      have t317 := g311 0 69 rfl
      have t318 := g311 0 3 rfl
      have f319 := (show 0 ≤ I312 0 71 ∧ I312 0 71 ≤ 5 from (hI312 0 71).1)
      have f320 := (show 0 ≤ I312 0 72 ∧ I312 0 72 ≤ 1000 from (hI312 0 72).1)
      have f321 := (show 0 ≤ I312 0 73 ∧ I312 0 73 ≤ 1001 from (hI312 0 73).1)
      have f322 := (show 0 ≤ I312 0 69 ∧ I312 0 69 ≤ 1000 from (hI312 0 69).1)
      have f323 := (show 0 ≤ I312 0 3 ∧ I312 0 3 ≤ 96 from (hI312 0 3).1)
      have KGR_I312 := gr_GR_fr KGR_I6 (fun k => g311 19 k rfl) (fun k => g311 18 k rfl) (fun k => g311 36 k rfl) (fun k => g311 41 k rfl) (fun k => g311 42 k rfl) (fun k => g311 43 k rfl) (fun k => g311 45 k rfl) (fun k => g311 46 k rfl) (fun k => g311 47 k rfl) (fun k => g311 6 k rfl) (fun k => g311 7 k rfl) (fun k => g311 8 k rfl) (g311 0 3 rfl)
      have KST_I312 := gr_ST_fr KST_I6 (fun k => g311 6 k rfl) (fun k => g311 19 k rfl) (fun k => g311 18 k rfl) (fun k => g311 41 k rfl) (fun k => g311 36 k rfl) (g311 0 3 rfl)
      have KTO_I312 := gr_TO_fr KTO_I6 (fun k => g311 52 k rfl) (fun k => g311 53 k rfl) (fun k => g311 54 k rfl) (fun k => g311 55 k rfl) (fun k => g311 6 k rfl) (g311 0 64 rfl) (g311 0 3 rfl)
      have KFM_I312 := gr_FM_fr KFM_I6 (fun k => g311 10 k rfl) (fun k => g311 55 k rfl) (fun k => g311 52 k rfl) (fun k => g311 53 k rfl) (fun k => g311 54 k rfl) (g311 0 64 rfl) (g311 0 3 rfl)
      have KMQ_I312 := gr_MQ_fr KMQ_I6 (fun k => g311 10 k rfl) (fun k => g311 55 k rfl) (fun k => g311 52 k rfl) (fun k => g311 53 k rfl) (fun k => g311 54 k rfl) (fun k => g311 60 k rfl) (g311 0 64 rfl) (g311 0 3 rfl) (g311 0 99 rfl)
      refine gv_callV hD rfl (As := [.inl 4]) (st := []) rfl (by decide) rfl rfl (gr_lV hws rfl) (Nat.le_of_ble_eq_true rfl) (gz_Ev_mono (d := 2) (by decide) E311) ?_
      show gv_X _ _ (35, [(1, .inr (.inl (J7 0 75))), (0, .inr (.inr (some 0)))], [.inl z311], gr_sh ++ ext, gr_h I312 J313)
      exact gv_zret hD rfl (by omega) ⟨I312, J313, rfl, hI312, FI312, FJ313, KGR_I312, KST_I312, KTO_I312, KFM_I312, KMQ_I312, ⟨_, rfl, by omega⟩⟩
  refine gv_run 1 true hD (pc' := 1) (lv' := [(0, .inr (.inr (some 0)))]) (st' := [.inr (.inr (some 0))]) (h' := gr_h I J) (C := (True ∧ True)) rfl ⟨trivial, trivial⟩ ?_
  obtain ⟨r324, h324, E324, P324⟩ := r_name (ws0 := ws0) (tb := tb) hws htb ext I J hI   
  obtain ⟨I325, J326, rfl, hI325, g324, k324, ⟨z324, rfl, q324⟩⟩ := P324
  have FI325 := gr_frt FI g324 rfl rfl
  have FJ326 := gr_fjt FJ k324 rfl rfl
  have t327 := g324 0 71 rfl
  have t328 := g324 0 72 rfl
  have t329 := g324 0 73 rfl
  have t330 := g324 0 69 rfl
  have t331 := g324 0 3 rfl
  have f332 := (show 0 ≤ I325 0 71 ∧ I325 0 71 ≤ 5 from (hI325 0 71).1)
  have f333 := (show 0 ≤ I325 0 72 ∧ I325 0 72 ≤ 1000 from (hI325 0 72).1)
  have f334 := (show 0 ≤ I325 0 73 ∧ I325 0 73 ≤ 1001 from (hI325 0 73).1)
  have f335 := (show 0 ≤ I325 0 69 ∧ I325 0 69 ≤ 1000 from (hI325 0 69).1)
  have f336 := (show 0 ≤ I325 0 3 ∧ I325 0 3 ≤ 96 from (hI325 0 3).1)
  have KGR_I325 := gr_GR_fr KGR_I (fun k => g324 19 k rfl) (fun k => g324 18 k rfl) (fun k => g324 36 k rfl) (fun k => g324 41 k rfl) (fun k => g324 42 k rfl) (fun k => g324 43 k rfl) (fun k => g324 45 k rfl) (fun k => g324 46 k rfl) (fun k => g324 47 k rfl) (fun k => g324 6 k rfl) (fun k => g324 7 k rfl) (fun k => g324 8 k rfl) (g324 0 3 rfl)
  have KST_I325 := gr_ST_fr KST_I (fun k => g324 6 k rfl) (fun k => g324 19 k rfl) (fun k => g324 18 k rfl) (fun k => g324 41 k rfl) (fun k => g324 36 k rfl) (g324 0 3 rfl)
  have KTO_I325 := gr_TO_fr KTO_I (fun k => g324 52 k rfl) (fun k => g324 53 k rfl) (fun k => g324 54 k rfl) (fun k => g324 55 k rfl) (fun k => g324 6 k rfl) (g324 0 64 rfl) (g324 0 3 rfl)
  have KFM_I325 := gr_FM_fr KFM_I (fun k => g324 10 k rfl) (fun k => g324 55 k rfl) (fun k => g324 52 k rfl) (fun k => g324 53 k rfl) (fun k => g324 54 k rfl) (g324 0 64 rfl) (g324 0 3 rfl)
  have KMQ_I325 := gr_MQ_fr KMQ_I (fun k => g324 10 k rfl) (fun k => g324 55 k rfl) (fun k => g324 52 k rfl) (fun k => g324 53 k rfl) (fun k => g324 54 k rfl) (fun k => g324 60 k rfl) (g324 0 64 rfl) (g324 0 3 rfl) (g324 0 99 rfl)
  refine gv_callV hD rfl (As := []) (st := []) rfl (by decide) rfl rfl (gr_lV hws rfl) (Nat.le_of_ble_eq_true rfl) (gz_Ev_mono (d := 3) (by decide) E324) ?_
  show gv_X _ _ (4, [(0, .inr (.inr (some 0)))], [.inl z324], gr_sh ++ ext, gr_h I325 J326)
  refine gv_if_ne (t := 9) hD rfl rfl ⟨by omega, by omega⟩ (fun c337 => ?_) (fun c337 => ?_)
  · exact L9 I325 J326 hI325 FI325 FJ326 KGR_I325 KST_I325 KTO_I325 KFM_I325 KMQ_I325 (by omega)
  · refine gv_run 1 true hD (pc' := 8) (lv' := [(0, .inr (.inr (some 0)))]) (st' := [.inl 0]) (h' := gr_h I325 J326) (C := (True ∧ True)) rfl ⟨trivial, trivial⟩ ?_
    exact gv_zret hD rfl (by omega) ⟨I325, J326, rfl, hI325, FI325, FJ326, KGR_I325, KST_I325, KTO_I325, KFM_I325, KMQ_I325, ⟨_, rfl, by omega⟩⟩
set_option maxHeartbeats 4000000 in
set_option maxRecDepth 100000 in
theorem r_mean_v {ws0 : List Cond} {tb : String → gz_T} (hws : ∀ w ∈ gr_ws, w ∈ ws0) (htb : tb RX13 = gr_T) (ext : gz_Sh) (I9 : gr_I) (I : gr_I) (J : gr_J) (hI : gr_Inv I)   (x0 : I 0 71 = 5 ∨ I 0 73 ≤ I 0 69) (x1 : I 0 72 ≤ I 0 69) (x2 : I 0 71 = 0 ∨ (I 0 72 < I 0 73 ∧ I 0 72 < I 0 69)) (x3 : I 0 71 = 3 → 2 ≤ I 0 73 - I 0 72 ∧ I 0 73 - I 0 72 ≤ 14) (x4 : I 0 72 ≤ I 0 73) (x5 : I 0 64 + I 0 69 - I 0 72 ≤ 1900) (x6 : I 0 99 ≤ I 0 72) (KTM_I : gr_TM I) (KTO_I : gr_TO I) (KFM_I : gr_FM I) (KMQ_I : gr_MQ I9 I) : ∃ r h', gz_Ev ws0 tb 99 (yX13_mean, cX13_mean, 4, (some .boolean)) [.inr (.inr (some 0))] (gr_sh ++ ext) (gr_h I J) r (gr_sh ++ ext) h' 0 0 ∧ (∃ (I' : gr_I) (J' : gr_J), h' = gr_h I' J' ∧ gr_Inv I' ∧ gr_fr [64, 71, 72, 73, 74, 75, 76, 77, 99, 122, 123] [10, 52, 53, 54, 55, 60, 75] I I' ∧ gr_fj [64, 71, 72, 73, 74, 75, 76, 77, 99, 122, 123] [10, 52, 53, 54, 55, 60, 75] J J' ∧ gr_TM I' ∧ gr_TO I' ∧ gr_FM I' ∧ gr_MQ I9 I' ∧ (∃ z : Int, r = some (.inl z) ∧ 0 ≤ z ∧ z ≤ 1 ∧ (I' 0 71 = 5 ∨ I' 0 73 ≤ I' 0 69) ∧ (I' 0 72 ≤ I' 0 69) ∧ (I' 0 71 = 0 ∨ (I' 0 72 < I' 0 73 ∧ I' 0 72 < I' 0 69)) ∧ (I' 0 71 = 3 → 2 ≤ I' 0 73 - I' 0 72 ∧ I' 0 73 - I' 0 72 ≤ 14) ∧ (I' 0 72 ≤ I' 0 73) ∧ (I' 0 69 = I 0 69) ∧ (I 0 73 ≤ I' 0 73) ∧ (I 0 72 ≤ I' 0 72) ∧ (I 0 64 ≤ I' 0 64) ∧ (I' 0 64 - I' 0 72 ≤ I 0 64 - I 0 72) ∧ (I' 0 99 ≤ I' 0 72))) := by
  have FI : gr_fr [64, 71, 72, 73, 74, 75, 76, 77, 99, 122, 123] [10, 52, 53, 54, 55, 60, 75] I I := fun _ _ _ => rfl
  have FJ : gr_fj [64, 71, 72, 73, 74, 75, 76, 77, 99, 122, 123] [10, 52, 53, 54, 55, 60, 75] J J := fun _ _ _ => rfl
  have hD : gv_D (gr_E ws0 tb 98 (yX13_mean, cX13_mean, 4, (some .boolean)) kX13_mean) := gq_ok oX13_mean
  refine gr_ev (d := 98) (l := kX13_mean) (Po := fun r h' => (∃ (I' : gr_I) (J' : gr_J), h' = gr_h I' J' ∧ gr_Inv I' ∧ gr_fr [64, 71, 72, 73, 74, 75, 76, 77, 99, 122, 123] [10, 52, 53, 54, 55, 60, 75] I I' ∧ gr_fj [64, 71, 72, 73, 74, 75, 76, 77, 99, 122, 123] [10, 52, 53, 54, 55, 60, 75] J J' ∧ gr_TM I' ∧ gr_TO I' ∧ gr_FM I' ∧ gr_MQ I9 I' ∧ (∃ z : Int, r = some (.inl z) ∧ 0 ≤ z ∧ z ≤ 1 ∧ (I' 0 71 = 5 ∨ I' 0 73 ≤ I' 0 69) ∧ (I' 0 72 ≤ I' 0 69) ∧ (I' 0 71 = 0 ∨ (I' 0 72 < I' 0 73 ∧ I' 0 72 < I' 0 69)) ∧ (I' 0 71 = 3 → 2 ≤ I' 0 73 - I' 0 72 ∧ I' 0 73 - I' 0 72 ≤ 14) ∧ (I' 0 72 ≤ I' 0 73) ∧ (I' 0 69 = I 0 69) ∧ (I 0 73 ≤ I' 0 73) ∧ (I 0 72 ≤ I' 0 72) ∧ (I 0 64 ≤ I' 0 64) ∧ (I' 0 64 - I' 0 72 ≤ I 0 64 - I 0 72) ∧ (I' 0 99 ≤ I' 0 72)))) htb rfl (Nat.le_of_ble_eq_true rfl) ?_
  have f1 := (show 0 ≤ I 0 71 ∧ I 0 71 ≤ 5 from (hI 0 71).1)
  have f2 := (show 0 ≤ I 0 72 ∧ I 0 72 ≤ 1000 from (hI 0 72).1)
  have f3 := (show 0 ≤ I 0 73 ∧ I 0 73 ≤ 1001 from (hI 0 73).1)
  have f4 := (show 0 ≤ I 0 69 ∧ I 0 69 ≤ 1000 from (hI 0 69).1)
  have f5 := (show 0 ≤ I 0 64 ∧ I 0 64 ≤ 2000 from (hI 0 64).1)
  have f6 := (show 0 ≤ I 0 99 ∧ I 0 99 ≤ 1000 from (hI 0 99).1)
  have f7 := (show 0 ≤ I 0 122 ∧ I 0 122 ≤ 47 from (hI 0 122).1)
  have f8 := (show 0 ≤ I 0 3 ∧ I 0 3 ≤ 96 from (hI 0 3).1)
  have f9 := (show 0 ≤ I 0 123 ∧ I 0 123 ≤ 95 from (hI 0 123).1)
  have L114 : ∀ (I10 : gr_I) (J11 : gr_J) , gr_Inv I10 → gr_fr [64, 71, 72, 73, 74, 75, 76, 77, 99, 122, 123] [10, 52, 53, 54, 55, 60, 75] I I10 → gr_fj [64, 71, 72, 73, 74, 75, 76, 77, 99, 122, 123] [10, 52, 53, 54, 55, 60, 75] J J11 → gr_TM I10 → gr_TO I10 → gr_FM I10 → gr_MQ I9 I10 → ((I 0 64 ≤ I10 0 64) ∧ (I10 0 64 - I10 0 72 ≤ I 0 64 - I 0 72) ∧ (I 0 72 + 1 ≤ I10 0 72) ∧ (I10 0 99 = I 0 99) ∧ (I10 0 71 = 5 ∨ I10 0 73 ≤ I10 0 69) ∧ (I10 0 72 ≤ I10 0 69) ∧ (I10 0 71 = 0 ∨ (I10 0 72 < I10 0 73 ∧ I10 0 72 < I10 0 69)) ∧ (I10 0 71 = 3 → 2 ≤ I10 0 73 - I10 0 72 ∧ I10 0 73 - I10 0 72 ≤ 14) ∧ (I10 0 72 ≤ I10 0 73) ∧ (I10 0 69 = I 0 69) ∧ (I 0 73 ≤ I10 0 73) ∧ (I 0 72 ≤ I10 0 72)) → gv_X (gr_E ws0 tb 98 (yX13_mean, cX13_mean, 4, (some .boolean)) kX13_mean) (gv_Q cX13_mean (some .boolean) (gr_sh ++ ext) (fun r h' => (∃ (I' : gr_I) (J' : gr_J), h' = gr_h I' J' ∧ gr_Inv I' ∧ gr_fr [64, 71, 72, 73, 74, 75, 76, 77, 99, 122, 123] [10, 52, 53, 54, 55, 60, 75] I I' ∧ gr_fj [64, 71, 72, 73, 74, 75, 76, 77, 99, 122, 123] [10, 52, 53, 54, 55, 60, 75] J J' ∧ gr_TM I' ∧ gr_TO I' ∧ gr_FM I' ∧ gr_MQ I9 I' ∧ (∃ z : Int, r = some (.inl z) ∧ 0 ≤ z ∧ z ≤ 1 ∧ (I' 0 71 = 5 ∨ I' 0 73 ≤ I' 0 69) ∧ (I' 0 72 ≤ I' 0 69) ∧ (I' 0 71 = 0 ∨ (I' 0 72 < I' 0 73 ∧ I' 0 72 < I' 0 69)) ∧ (I' 0 71 = 3 → 2 ≤ I' 0 73 - I' 0 72 ∧ I' 0 73 - I' 0 72 ≤ 14) ∧ (I' 0 72 ≤ I' 0 73) ∧ (I' 0 69 = I 0 69) ∧ (I 0 73 ≤ I' 0 73) ∧ (I 0 72 ≤ I' 0 72) ∧ (I 0 64 ≤ I' 0 64) ∧ (I' 0 64 - I' 0 72 ≤ I 0 64 - I 0 72) ∧ (I' 0 99 ≤ I' 0 72))))) (114, [], [], gr_sh ++ ext, gr_h I10 J11) := by
    intro I10 J11 hI10 FI10 FJ11 KTM_I10 KTO_I10 KFM_I10 KMQ_I10 m_12
    obtain ⟨e0_12, e1_12, e2_12, e3_12, e4_12, e5_12, e6_12, e7_12, e8_12, e9_12, e10_12, e11_12⟩ := m_12
    have f13 := (show 0 ≤ I10 0 71 ∧ I10 0 71 ≤ 5 from (hI10 0 71).1)
    have f14 := (show 0 ≤ I10 0 72 ∧ I10 0 72 ≤ 1000 from (hI10 0 72).1)
    have f15 := (show 0 ≤ I10 0 73 ∧ I10 0 73 ≤ 1001 from (hI10 0 73).1)
    have f16 := (show 0 ≤ I10 0 69 ∧ I10 0 69 ≤ 1000 from (hI10 0 69).1)
    have f17 := (show 0 ≤ I10 0 64 ∧ I10 0 64 ≤ 2000 from (hI10 0 64).1)
    have f18 := (show 0 ≤ I10 0 99 ∧ I10 0 99 ≤ 1000 from (hI10 0 99).1)
    have f19 := (show 0 ≤ I10 0 122 ∧ I10 0 122 ≤ 47 from (hI10 0 122).1)
    have f20 := (show 0 ≤ I10 0 3 ∧ I10 0 3 ≤ 96 from (hI10 0 3).1)
    have f21 := (show 0 ≤ I10 0 123 ∧ I10 0 123 ≤ 95 from (hI10 0 123).1)
    refine gv_run 1 true hD (pc' := 115) (lv' := []) (st' := [.inl 0]) (h' := gr_h I10 J11) (C := (True ∧ True)) rfl ⟨trivial, trivial⟩ ?_
    exact gv_zret hD rfl (by omega) ⟨I10, J11, rfl, hI10, FI10, FJ11, KTM_I10, KTO_I10, KFM_I10, KMQ_I10, ⟨_, rfl, by omega⟩⟩
  have L108 : ∀ (I22 : gr_I) (J23 : gr_J) (v1_24 : Int) (v3_24 : Int) (s1_24 : Int), gr_Inv I22 → gr_fr [64, 71, 72, 73, 74, 75, 76, 77, 99, 122, 123] [10, 52, 53, 54, 55, 60, 75] I I22 → gr_fj [64, 71, 72, 73, 74, 75, 76, 77, 99, 122, 123] [10, 52, 53, 54, 55, 60, 75] J J23 → gr_TM I22 → gr_TO I22 → gr_FM I22 → gr_MQ I9 I22 → ((0 ≤ v1_24 ∧ v1_24 ≤ 95) ∧ (0 ≤ v3_24 ∧ v3_24 ≤ 1999) ∧ (0 ≤ s1_24 ∧ s1_24 ≤ 1) ∧ (I 0 64 ≤ I22 0 64) ∧ (I22 0 64 - I22 0 72 ≤ I 0 64 - I 0 72) ∧ (I 0 72 + 1 ≤ I22 0 72) ∧ (I22 0 99 = I 0 99) ∧ (I 0 72 ≤ 999) ∧ (v1_24 < I22 0 3) ∧ (v3_24 < I22 0 64) ∧ (I22 0 71 = 5 ∨ I22 0 73 ≤ I22 0 69) ∧ (I22 0 72 ≤ I22 0 69) ∧ (I22 0 71 = 0 ∨ (I22 0 72 < I22 0 73 ∧ I22 0 72 < I22 0 69)) ∧ (I22 0 71 = 3 → 2 ≤ I22 0 73 - I22 0 72 ∧ I22 0 73 - I22 0 72 ≤ 14) ∧ (I22 0 72 ≤ I22 0 73) ∧ (I22 0 69 = I 0 69) ∧ (I 0 73 ≤ I22 0 73) ∧ (I 0 72 ≤ I22 0 72)) → (gr_OWN v3_24 v1_24 0 I22) → gv_X (gr_E ws0 tb 98 (yX13_mean, cX13_mean, 4, (some .boolean)) kX13_mean) (gv_Q cX13_mean (some .boolean) (gr_sh ++ ext) (fun r h' => (∃ (I' : gr_I) (J' : gr_J), h' = gr_h I' J' ∧ gr_Inv I' ∧ gr_fr [64, 71, 72, 73, 74, 75, 76, 77, 99, 122, 123] [10, 52, 53, 54, 55, 60, 75] I I' ∧ gr_fj [64, 71, 72, 73, 74, 75, 76, 77, 99, 122, 123] [10, 52, 53, 54, 55, 60, 75] J J' ∧ gr_TM I' ∧ gr_TO I' ∧ gr_FM I' ∧ gr_MQ I9 I' ∧ (∃ z : Int, r = some (.inl z) ∧ 0 ≤ z ∧ z ≤ 1 ∧ (I' 0 71 = 5 ∨ I' 0 73 ≤ I' 0 69) ∧ (I' 0 72 ≤ I' 0 69) ∧ (I' 0 71 = 0 ∨ (I' 0 72 < I' 0 73 ∧ I' 0 72 < I' 0 69)) ∧ (I' 0 71 = 3 → 2 ≤ I' 0 73 - I' 0 72 ∧ I' 0 73 - I' 0 72 ≤ 14) ∧ (I' 0 72 ≤ I' 0 73) ∧ (I' 0 69 = I 0 69) ∧ (I 0 73 ≤ I' 0 73) ∧ (I 0 72 ≤ I' 0 72) ∧ (I 0 64 ≤ I' 0 64) ∧ (I' 0 64 - I' 0 72 ≤ I 0 64 - I 0 72) ∧ (I' 0 99 ≤ I' 0 72))))) (108, [(0, .inr (.inr (some 0))), (1, .inl v1_24), (3, .inl v3_24)], [.inl s1_24, .inr (.inr (some 0))], gr_sh ++ ext, gr_h I22 J23) := by
    intro I22 J23 v1_24 v3_24 s1_24 hI22 FI22 FJ23 KTM_I22 KTO_I22 KFM_I22 KMQ_I22 m_24 e7_24
    obtain ⟨hv1_24, hv3_24, hs1_24, e0_24, e1_24, e2_24, e3_24, e4_24, e5_24, e6_24, e8_24, e9_24, e10_24, e11_24, e12_24, e13_24, e14_24, e15_24⟩ := m_24
    have f25 := (show 0 ≤ I22 0 71 ∧ I22 0 71 ≤ 5 from (hI22 0 71).1)
    have f26 := (show 0 ≤ I22 0 72 ∧ I22 0 72 ≤ 1000 from (hI22 0 72).1)
    have f27 := (show 0 ≤ I22 0 73 ∧ I22 0 73 ≤ 1001 from (hI22 0 73).1)
    have f28 := (show 0 ≤ I22 0 69 ∧ I22 0 69 ≤ 1000 from (hI22 0 69).1)
    have f29 := (show 0 ≤ I22 0 64 ∧ I22 0 64 ≤ 2000 from (hI22 0 64).1)
    have f30 := (show 0 ≤ I22 0 99 ∧ I22 0 99 ≤ 1000 from (hI22 0 99).1)
    have f31 := (show 0 ≤ I22 0 122 ∧ I22 0 122 ≤ 47 from (hI22 0 122).1)
    have f32 := (show 0 ≤ I22 0 3 ∧ I22 0 3 ≤ 96 from (hI22 0 3).1)
    have f33 := (show 0 ≤ I22 0 123 ∧ I22 0 123 ≤ 95 from (hI22 0 123).1)
    obtain ⟨r34, h34, E34, P34⟩ := r_done (ws0 := ws0) (tb := tb) hws htb ext I22 J23 hI22 s1_24 ⟨by omega, by omega⟩ (by omega) (by omega) (by omega) (by omega) (by omega)
    obtain ⟨I35, J36, rfl, hI35, g34, k34, ⟨z34, rfl, q34⟩⟩ := P34
    have FI35 := gr_frt FI22 g34 rfl rfl
    have FJ36 := gr_fjt FJ23 k34 rfl rfl
    have t37 := g34 0 69 rfl
    have t38 := g34 0 64 rfl
    have t39 := g34 0 99 rfl
    have t40 := g34 0 122 rfl
    have t41 := g34 0 3 rfl
    have t42 := g34 0 123 rfl
    have f43 := (show 0 ≤ I35 0 71 ∧ I35 0 71 ≤ 5 from (hI35 0 71).1)
    have f44 := (show 0 ≤ I35 0 72 ∧ I35 0 72 ≤ 1000 from (hI35 0 72).1)
    have f45 := (show 0 ≤ I35 0 73 ∧ I35 0 73 ≤ 1001 from (hI35 0 73).1)
    have f46 := (show 0 ≤ I35 0 69 ∧ I35 0 69 ≤ 1000 from (hI35 0 69).1)
    have f47 := (show 0 ≤ I35 0 64 ∧ I35 0 64 ≤ 2000 from (hI35 0 64).1)
    have f48 := (show 0 ≤ I35 0 99 ∧ I35 0 99 ≤ 1000 from (hI35 0 99).1)
    have f49 := (show 0 ≤ I35 0 122 ∧ I35 0 122 ≤ 47 from (hI35 0 122).1)
    have f50 := (show 0 ≤ I35 0 3 ∧ I35 0 3 ≤ 96 from (hI35 0 3).1)
    have f51 := (show 0 ≤ I35 0 123 ∧ I35 0 123 ≤ 95 from (hI35 0 123).1)
    have KTM_I35 := gr_TM_fr KTM_I22 (fun k => g34 52 k rfl) (fun k => g34 53 k rfl) (fun k => g34 54 k rfl) (g34 0 64 rfl)
    have KTO_I35 := gr_TO_fr KTO_I22 (fun k => g34 52 k rfl) (fun k => g34 53 k rfl) (fun k => g34 54 k rfl) (fun k => g34 55 k rfl) (fun k => g34 6 k rfl) (g34 0 64 rfl) (g34 0 3 rfl)
    have KFM_I35 := gr_FM_fr KFM_I22 (fun k => g34 10 k rfl) (fun k => g34 55 k rfl) (fun k => g34 52 k rfl) (fun k => g34 53 k rfl) (fun k => g34 54 k rfl) (g34 0 64 rfl) (g34 0 3 rfl)
    have KMQ_I35 := gr_MQ_fr KMQ_I22 (fun k => g34 10 k rfl) (fun k => g34 55 k rfl) (fun k => g34 52 k rfl) (fun k => g34 53 k rfl) (fun k => g34 54 k rfl) (fun k => g34 60 k rfl) (g34 0 64 rfl) (g34 0 3 rfl) (g34 0 99 rfl)
    refine gv_callV hD rfl (As := [.inl s1_24]) (st := []) rfl (by decide) rfl rfl (gr_lV hws rfl) (Nat.le_of_ble_eq_true rfl) (gz_Ev_mono (d := 11) (by decide) E34) ?_
    show gv_X _ _ (111, [(0, .inr (.inr (some 0))), (1, .inl v1_24), (3, .inl v3_24)], [.inl z34], gr_sh ++ ext, gr_h I35 J36)
    refine gv_if_ne (t := 116) hD rfl rfl ⟨by omega, by omega⟩ (fun c52 => ?_) (fun c52 => ?_)
    · refine gv_run 4 true hD (pc' := 122) (lv' := [(0, .inr (.inr (some 0))), (1, .inl v1_24), (3, .inl v3_24)]) (st' := [.inl v3_24, .inl v1_24, .inr (.inr (some 10))]) (h' := gr_h I35 J36) (C := ((((True ∧ True) ∧ True) ∧ True) ∧ True)) rfl ⟨⟨⟨⟨trivial, trivial⟩, trivial⟩, trivial⟩, trivial⟩ ?_
      refine gv_run 1 true hD (pc' := 123) (lv' := [(0, .inr (.inr (some 0))), (1, .inl v1_24), (3, .inl v3_24)]) (st' := []) (h' := gz_up (gr_h I35 J36) 10 (Int.toNat v1_24) (.inl v3_24)) (C := (True ∧ (0 ≤ v1_24 ∧ v1_24 < ((96 : Nat) : Int)))) rfl ⟨trivial, ⟨by omega, by omega⟩⟩ ?_
      refine gr_st hI35 FI35 rfl rfl ⟨⟨by show (-1) ≤ _; omega, by show _ ≤ 1999; omega⟩, trivial⟩ (fun I53 hI53 FI53 q54 p54 => ?_)
      have t55 := p54 0 71 (fun q => absurd q.1 (by decide))
      have t56 := p54 0 72 (fun q => absurd q.1 (by decide))
      have t57 := p54 0 73 (fun q => absurd q.1 (by decide))
      have t58 := p54 0 69 (fun q => absurd q.1 (by decide))
      have t59 := p54 0 64 (fun q => absurd q.1 (by decide))
      have t60 := p54 0 99 (fun q => absurd q.1 (by decide))
      have t61 := p54 0 122 (fun q => absurd q.1 (by decide))
      have t62 := p54 0 3 (fun q => absurd q.1 (by decide))
      have t63 := p54 0 123 (fun q => absurd q.1 (by decide))
      have f64 := (show 0 ≤ I53 0 71 ∧ I53 0 71 ≤ 5 from (hI53 0 71).1)
      have f65 := (show 0 ≤ I53 0 72 ∧ I53 0 72 ≤ 1000 from (hI53 0 72).1)
      have f66 := (show 0 ≤ I53 0 73 ∧ I53 0 73 ≤ 1001 from (hI53 0 73).1)
      have f67 := (show 0 ≤ I53 0 69 ∧ I53 0 69 ≤ 1000 from (hI53 0 69).1)
      have f68 := (show 0 ≤ I53 0 64 ∧ I53 0 64 ≤ 2000 from (hI53 0 64).1)
      have f69 := (show 0 ≤ I53 0 99 ∧ I53 0 99 ≤ 1000 from (hI53 0 99).1)
      have f70 := (show 0 ≤ I53 0 122 ∧ I53 0 122 ≤ 47 from (hI53 0 122).1)
      have f71 := (show 0 ≤ I53 0 3 ∧ I53 0 3 ≤ 96 from (hI53 0 3).1)
      have f72 := (show 0 ≤ I53 0 123 ∧ I53 0 123 ≤ 95 from (hI53 0 123).1)
      have KTM_I53 := gr_TM_fr KTM_I35 (fun k => p54 52 k (fun q => absurd q.1 (by decide))) (fun k => p54 53 k (fun q => absurd q.1 (by decide))) (fun k => p54 54 k (fun q => absurd q.1 (by decide))) (p54 0 64 (fun q => absurd q.1 (by decide)))
      have KTO_I53 := gr_TO_fr KTO_I35 (fun k => p54 52 k (fun q => absurd q.1 (by decide))) (fun k => p54 53 k (fun q => absurd q.1 (by decide))) (fun k => p54 54 k (fun q => absurd q.1 (by decide))) (fun k => p54 55 k (fun q => absurd q.1 (by decide))) (fun k => p54 6 k (fun q => absurd q.1 (by decide))) (p54 0 64 (fun q => absurd q.1 (by decide))) (p54 0 3 (fun q => absurd q.1 (by decide)))
      have KFM_I53 : gr_FM I53 := gr_FM_st KFM_I35 p54 q54 (by omega) (gr_OWN_x e7_24 (gr_TS9_fr (fun k => g34 55 k rfl) (fun k => g34 52 k rfl) (fun k => g34 53 k rfl) (fun k => g34 54 k rfl)) (by omega) (by omega) (Int.le_refl _))
      have f73 := (show 0 ≤ I53 0 99 ∧ I53 0 99 ≤ 1000 from (hI53 0 99).1)
      refine gv_run 7 true hD (pc' := 134) (lv' := [(0, .inr (.inr (some 0))), (1, .inl v1_24), (3, .inl v3_24)]) (st' := [.inl 1, .inl (I53 0 99), .inr (.inr (some 0)), .inl (I53 0 99), .inr (.inr (some 60))]) (h' := gr_h I53 J36) (C := (((((((True ∧ True) ∧ True) ∧ True) ∧ True) ∧ True) ∧ True) ∧ True)) rfl ⟨⟨⟨⟨⟨⟨⟨trivial, trivial⟩, trivial⟩, trivial⟩, trivial⟩, trivial⟩, trivial⟩, trivial⟩ ?_
      refine gv_run 2 true hD (pc' := 138) (lv' := [(0, .inr (.inr (some 0))), (1, .inl v1_24), (3, .inl v3_24)]) (st' := [.inl (I53 0 99), .inr (.inr (some 60))]) (h' := gz_up (gr_h I53 J36) 0 99 (.inl (((I53 0 99) + 1)))) (C := ((True ∧ True) ∧ True)) rfl ⟨⟨trivial, trivial⟩, trivial⟩ ?_
      refine gr_st hI53 FI53 rfl rfl ⟨⟨by show 0 ≤ _; omega, by show _ ≤ 1000; omega⟩, trivial⟩ (fun I74 hI74 FI74 q75 p75 => ?_)
      have t76 := p75 0 71 (by decide)
      have t77 := p75 0 72 (by decide)
      have t78 := p75 0 73 (by decide)
      have t79 := p75 0 69 (by decide)
      have t80 := p75 0 64 (by decide)
      have t81 := p75 0 122 (by decide)
      have t82 := p75 0 3 (by decide)
      have t83 := p75 0 123 (by decide)
      have f84 := (show 0 ≤ I74 0 71 ∧ I74 0 71 ≤ 5 from (hI74 0 71).1)
      have f85 := (show 0 ≤ I74 0 72 ∧ I74 0 72 ≤ 1000 from (hI74 0 72).1)
      have f86 := (show 0 ≤ I74 0 73 ∧ I74 0 73 ≤ 1001 from (hI74 0 73).1)
      have f87 := (show 0 ≤ I74 0 69 ∧ I74 0 69 ≤ 1000 from (hI74 0 69).1)
      have f88 := (show 0 ≤ I74 0 64 ∧ I74 0 64 ≤ 2000 from (hI74 0 64).1)
      have f89 := (show 0 ≤ I74 0 99 ∧ I74 0 99 ≤ 1000 from (hI74 0 99).1)
      have f90 := (show 0 ≤ I74 0 122 ∧ I74 0 122 ≤ 47 from (hI74 0 122).1)
      have f91 := (show 0 ≤ I74 0 3 ∧ I74 0 3 ≤ 96 from (hI74 0 3).1)
      have f92 := (show 0 ≤ I74 0 123 ∧ I74 0 123 ≤ 95 from (hI74 0 123).1)
      have KTM_I74 := gr_TM_fr KTM_I53 (fun k => p75 52 k (fun q => absurd q.1 (by decide))) (fun k => p75 53 k (fun q => absurd q.1 (by decide))) (fun k => p75 54 k (fun q => absurd q.1 (by decide))) (p75 0 64 (by decide))
      have KTO_I74 := gr_TO_fr KTO_I53 (fun k => p75 52 k (fun q => absurd q.1 (by decide))) (fun k => p75 53 k (fun q => absurd q.1 (by decide))) (fun k => p75 54 k (fun q => absurd q.1 (by decide))) (fun k => p75 55 k (fun q => absurd q.1 (by decide))) (fun k => p75 6 k (fun q => absurd q.1 (by decide))) (p75 0 64 (by decide)) (p75 0 3 (by decide))
      have KFM_I74 := gr_FM_fr KFM_I53 (fun k => p75 10 k (fun q => absurd q.1 (by decide))) (fun k => p75 55 k (fun q => absurd q.1 (by decide))) (fun k => p75 52 k (fun q => absurd q.1 (by decide))) (fun k => p75 53 k (fun q => absurd q.1 (by decide))) (fun k => p75 54 k (fun q => absurd q.1 (by decide))) (p75 0 64 (by decide)) (p75 0 3 (by decide))
      refine gv_run 2 true hD (pc' := 140) (lv' := [(0, .inr (.inr (some 0))), (1, .inl v1_24), (3, .inl v3_24)]) (st' := []) (h' := gz_up (gr_h I74 J36) 60 (Int.toNat ((I53 0 99))) (.inl v1_24)) (C := ((True ∧ True) ∧ (0 ≤ (I53 0 99) ∧ (I53 0 99) < ((1000 : Nat) : Int)))) rfl ⟨⟨trivial, trivial⟩, ⟨by omega, by omega⟩⟩ ?_
      refine gr_st hI74 FI74 rfl rfl ⟨⟨by show 0 ≤ _; omega, by show _ ≤ 95; omega⟩, trivial⟩ (fun I93 hI93 FI93 q94 p94 => ?_)
      have t95 := p94 0 71 (fun q => absurd q.1 (by decide))
      have t96 := p94 0 72 (fun q => absurd q.1 (by decide))
      have t97 := p94 0 73 (fun q => absurd q.1 (by decide))
      have t98 := p94 0 69 (fun q => absurd q.1 (by decide))
      have t99 := p94 0 64 (fun q => absurd q.1 (by decide))
      have t100 := p94 0 99 (fun q => absurd q.1 (by decide))
      have t101 := p94 0 122 (fun q => absurd q.1 (by decide))
      have t102 := p94 0 3 (fun q => absurd q.1 (by decide))
      have t103 := p94 0 123 (fun q => absurd q.1 (by decide))
      have f104 := (show 0 ≤ I93 0 71 ∧ I93 0 71 ≤ 5 from (hI93 0 71).1)
      have f105 := (show 0 ≤ I93 0 72 ∧ I93 0 72 ≤ 1000 from (hI93 0 72).1)
      have f106 := (show 0 ≤ I93 0 73 ∧ I93 0 73 ≤ 1001 from (hI93 0 73).1)
      have f107 := (show 0 ≤ I93 0 69 ∧ I93 0 69 ≤ 1000 from (hI93 0 69).1)
      have f108 := (show 0 ≤ I93 0 64 ∧ I93 0 64 ≤ 2000 from (hI93 0 64).1)
      have f109 := (show 0 ≤ I93 0 99 ∧ I93 0 99 ≤ 1000 from (hI93 0 99).1)
      have f110 := (show 0 ≤ I93 0 122 ∧ I93 0 122 ≤ 47 from (hI93 0 122).1)
      have f111 := (show 0 ≤ I93 0 3 ∧ I93 0 3 ≤ 96 from (hI93 0 3).1)
      have f112 := (show 0 ≤ I93 0 123 ∧ I93 0 123 ≤ 95 from (hI93 0 123).1)
      have KTM_I93 := gr_TM_fr KTM_I74 (fun k => p94 52 k (fun q => absurd q.1 (by decide))) (fun k => p94 53 k (fun q => absurd q.1 (by decide))) (fun k => p94 54 k (fun q => absurd q.1 (by decide))) (p94 0 64 (fun q => absurd q.1 (by decide)))
      have KTO_I93 := gr_TO_fr KTO_I74 (fun k => p94 52 k (fun q => absurd q.1 (by decide))) (fun k => p94 53 k (fun q => absurd q.1 (by decide))) (fun k => p94 54 k (fun q => absurd q.1 (by decide))) (fun k => p94 55 k (fun q => absurd q.1 (by decide))) (fun k => p94 6 k (fun q => absurd q.1 (by decide))) (p94 0 64 (fun q => absurd q.1 (by decide))) (p94 0 3 (fun q => absurd q.1 (by decide)))
      have KFM_I93 := gr_FM_fr KFM_I74 (fun k => p94 10 k (fun q => absurd q.1 (by decide))) (fun k => p94 55 k (fun q => absurd q.1 (by decide))) (fun k => p94 52 k (fun q => absurd q.1 (by decide))) (fun k => p94 53 k (fun q => absurd q.1 (by decide))) (fun k => p94 54 k (fun q => absurd q.1 (by decide))) (p94 0 64 (fun q => absurd q.1 (by decide))) (p94 0 3 (fun q => absurd q.1 (by decide)))
      have KMQ_I93 : gr_MQ I9 I93 := gr_MQ_mn KMQ_I35 p54 p75 (by omega) p94 q94 (by omega) (by omega)
      refine gv_run 1 true hD (pc' := 141) (lv' := [(0, .inr (.inr (some 0))), (1, .inl v1_24), (3, .inl v3_24)]) (st' := [.inl 1]) (h' := gr_h I93 J36) (C := (True ∧ True)) rfl ⟨trivial, trivial⟩ ?_
      exact gv_zret hD rfl (by omega) ⟨I93, J36, rfl, hI93, FI93, FJ36, KTM_I93, KTO_I93, KFM_I93, KMQ_I93, ⟨_, rfl, by omega⟩⟩
    · refine gv_pick [] rfl ?_
      exact L114 I35 J36 hI35 FI35 FJ36 KTM_I35 KTO_I35 KFM_I35 KMQ_I35 (by omega)
  refine gv_run 1 true hD (pc' := 1) (lv' := [(0, .inr (.inr (some 0)))]) (st' := [.inr (.inr (some 0))]) (h' := gr_h I J) (C := (True ∧ True)) rfl ⟨trivial, trivial⟩ ?_
  obtain ⟨r113, h113, E113, P113⟩ := r_name (ws0 := ws0) (tb := tb) hws htb ext I J hI   
  obtain ⟨I114, J115, rfl, hI114, g113, k113, ⟨z113, rfl, q113⟩⟩ := P113
  have FI114 := gr_frt FI g113 rfl rfl
  have FJ115 := gr_fjt FJ k113 rfl rfl
  have t116 := g113 0 71 rfl
  have t117 := g113 0 72 rfl
  have t118 := g113 0 73 rfl
  have t119 := g113 0 69 rfl
  have t120 := g113 0 64 rfl
  have t121 := g113 0 99 rfl
  have t122 := g113 0 122 rfl
  have t123 := g113 0 3 rfl
  have t124 := g113 0 123 rfl
  have f125 := (show 0 ≤ I114 0 71 ∧ I114 0 71 ≤ 5 from (hI114 0 71).1)
  have f126 := (show 0 ≤ I114 0 72 ∧ I114 0 72 ≤ 1000 from (hI114 0 72).1)
  have f127 := (show 0 ≤ I114 0 73 ∧ I114 0 73 ≤ 1001 from (hI114 0 73).1)
  have f128 := (show 0 ≤ I114 0 69 ∧ I114 0 69 ≤ 1000 from (hI114 0 69).1)
  have f129 := (show 0 ≤ I114 0 64 ∧ I114 0 64 ≤ 2000 from (hI114 0 64).1)
  have f130 := (show 0 ≤ I114 0 99 ∧ I114 0 99 ≤ 1000 from (hI114 0 99).1)
  have f131 := (show 0 ≤ I114 0 122 ∧ I114 0 122 ≤ 47 from (hI114 0 122).1)
  have f132 := (show 0 ≤ I114 0 3 ∧ I114 0 3 ≤ 96 from (hI114 0 3).1)
  have f133 := (show 0 ≤ I114 0 123 ∧ I114 0 123 ≤ 95 from (hI114 0 123).1)
  have KTM_I114 := gr_TM_fr KTM_I (fun k => g113 52 k rfl) (fun k => g113 53 k rfl) (fun k => g113 54 k rfl) (g113 0 64 rfl)
  have KTO_I114 := gr_TO_fr KTO_I (fun k => g113 52 k rfl) (fun k => g113 53 k rfl) (fun k => g113 54 k rfl) (fun k => g113 55 k rfl) (fun k => g113 6 k rfl) (g113 0 64 rfl) (g113 0 3 rfl)
  have KFM_I114 := gr_FM_fr KFM_I (fun k => g113 10 k rfl) (fun k => g113 55 k rfl) (fun k => g113 52 k rfl) (fun k => g113 53 k rfl) (fun k => g113 54 k rfl) (g113 0 64 rfl) (g113 0 3 rfl)
  have KMQ_I114 := gr_MQ_fr KMQ_I (fun k => g113 10 k rfl) (fun k => g113 55 k rfl) (fun k => g113 52 k rfl) (fun k => g113 53 k rfl) (fun k => g113 54 k rfl) (fun k => g113 60 k rfl) (g113 0 64 rfl) (g113 0 3 rfl) (g113 0 99 rfl)
  refine gv_callV hD rfl (As := []) (st := []) rfl (by decide) rfl rfl (gr_lV hws rfl) (Nat.le_of_ble_eq_true rfl) (gz_Ev_mono (d := 3) (by decide) E113) ?_
  show gv_X _ _ (4, [(0, .inr (.inr (some 0)))], [.inl z113], gr_sh ++ ext, gr_h I114 J115)
  refine gv_if_ne (t := 9) hD rfl rfl ⟨by omega, by omega⟩ (fun c134 => ?_) (fun c134 => ?_)
  · have f135 := (show 0 ≤ I114 0 3 ∧ I114 0 3 ≤ 96 from (hI114 0 3).1)
    refine gv_run 7 true hD (pc' := 22) (lv' := [(0, .inr (.inr (some 0)))]) (st' := [.inr (.inl (J115 0 75)), .inl (I114 0 3), .inl 0, .inr (.inr (some 3))]) (h' := gr_h I114 J115) (C := (((((((True ∧ True) ∧ True) ∧ True) ∧ True) ∧ True) ∧ True) ∧ True)) rfl ⟨⟨⟨⟨⟨⟨⟨trivial, trivial⟩, trivial⟩, trivial⟩, trivial⟩, trivial⟩, trivial⟩, trivial⟩ ?_
    obtain ⟨r136, h136, E136, P136⟩ := r_find_3 (ws0 := ws0) (tb := tb) hws htb ext I114 J115 hI114 0 (I114 0 3) (J115 0 75) ⟨by omega, by omega⟩ ⟨by omega, by omega⟩ (by omega)
    obtain ⟨rfl, ⟨z136, rfl, q136⟩⟩ := P136
    refine gv_callS hD rfl (As := [.inr (.inr (some 3)), .inl 0, .inl (I114 0 3), .inr (.inl (J115 0 75))]) (st := []) rfl (gr_lS hws rfl) (Nat.le_of_ble_eq_true rfl) (gz_Ev_mono (d := 1) (by decide) E136) ?_
    show gv_X _ _ (25, [(0, .inr (.inr (some 0)))], [.inl z136], gr_sh ++ ext, gr_h I114 J115)
    refine gv_run 2 true hD (pc' := 27) (lv' := [(1, .inl z136), (0, .inr (.inr (some 0)))]) (st' := [.inl z136]) (h' := gr_h I114 J115) (C := ((True ∧ True) ∧ True)) rfl ⟨⟨trivial, trivial⟩, trivial⟩ ?_
    refine gv_if_ge (t := 36) hD rfl rfl ⟨by omega, by omega⟩ (fun c137 => ?_) (fun c137 => ?_)
    · have f138 := (show (-1) ≤ I114 10 (Int.toNat z136) ∧ I114 10 (Int.toNat z136) ≤ 1999 from (hI114 10 (Int.toNat z136)).1)
      refine gv_run 4 true hD (pc' := 42) (lv' := [(1, .inl z136), (0, .inr (.inr (some 0)))]) (st' := [.inl (I114 10 (Int.toNat z136))]) (h' := gr_h I114 J115) (C := ((((True ∧ True) ∧ True) ∧ True) ∧ (0 ≤ z136 ∧ z136 < ((96 : Nat) : Int)))) rfl ⟨⟨⟨⟨trivial, trivial⟩, trivial⟩, trivial⟩, ⟨by omega, by omega⟩⟩ ?_
      refine gv_if_lt (t := 51) hD rfl rfl ⟨by omega, by omega⟩ (fun c139 => ?_) (fun c139 => ?_)
      · refine gv_run 1 true hD (pc' := 52) (lv' := [(1, .inl z136), (0, .inr (.inr (some 0)))]) (st' := [.inr (.inr (some 0))]) (h' := gr_h I114 J115) (C := (True ∧ True)) rfl ⟨trivial, trivial⟩ ?_
        obtain ⟨r140, h140, E140, P140⟩ := r_next (ws0 := ws0) (tb := tb) hws htb ext I114 J115 hI114   (by omega)
        obtain ⟨I141, J142, rfl, hI141, g140, k140, ⟨rfl, q140⟩⟩ := P140
        have FI141 := gr_frt FI114 g140 rfl rfl
        have FJ142 := gr_fjt FJ115 k140 rfl rfl
        have t143 := g140 0 69 rfl
        have t144 := g140 0 64 rfl
        have t145 := g140 0 99 rfl
        have t146 := g140 0 122 rfl
        have t147 := g140 0 3 rfl
        have t148 := g140 0 123 rfl
        have f149 := (show 0 ≤ I141 0 71 ∧ I141 0 71 ≤ 5 from (hI141 0 71).1)
        have f150 := (show 0 ≤ I141 0 72 ∧ I141 0 72 ≤ 1000 from (hI141 0 72).1)
        have f151 := (show 0 ≤ I141 0 73 ∧ I141 0 73 ≤ 1001 from (hI141 0 73).1)
        have f152 := (show 0 ≤ I141 0 69 ∧ I141 0 69 ≤ 1000 from (hI141 0 69).1)
        have f153 := (show 0 ≤ I141 0 64 ∧ I141 0 64 ≤ 2000 from (hI141 0 64).1)
        have f154 := (show 0 ≤ I141 0 99 ∧ I141 0 99 ≤ 1000 from (hI141 0 99).1)
        have f155 := (show 0 ≤ I141 0 122 ∧ I141 0 122 ≤ 47 from (hI141 0 122).1)
        have f156 := (show 0 ≤ I141 0 3 ∧ I141 0 3 ≤ 96 from (hI141 0 3).1)
        have f157 := (show 0 ≤ I141 0 123 ∧ I141 0 123 ≤ 95 from (hI141 0 123).1)
        have KTM_I141 := gr_TM_fr KTM_I114 (fun k => g140 52 k rfl) (fun k => g140 53 k rfl) (fun k => g140 54 k rfl) (g140 0 64 rfl)
        have KTO_I141 := gr_TO_fr KTO_I114 (fun k => g140 52 k rfl) (fun k => g140 53 k rfl) (fun k => g140 54 k rfl) (fun k => g140 55 k rfl) (fun k => g140 6 k rfl) (g140 0 64 rfl) (g140 0 3 rfl)
        have KFM_I141 := gr_FM_fr KFM_I114 (fun k => g140 10 k rfl) (fun k => g140 55 k rfl) (fun k => g140 52 k rfl) (fun k => g140 53 k rfl) (fun k => g140 54 k rfl) (g140 0 64 rfl) (g140 0 3 rfl)
        have KMQ_I141 := gr_MQ_fr KMQ_I114 (fun k => g140 10 k rfl) (fun k => g140 55 k rfl) (fun k => g140 52 k rfl) (fun k => g140 53 k rfl) (fun k => g140 54 k rfl) (fun k => g140 60 k rfl) (g140 0 64 rfl) (g140 0 3 rfl) (g140 0 99 rfl)
        refine gv_callV hD rfl (As := []) (st := []) rfl (by decide) rfl rfl (gr_lV hws rfl) (Nat.le_of_ble_eq_true rfl) (gz_Ev_mono (d := 10) (by decide) E140) ?_
        show gv_X _ _ (55, [(1, .inl z136), (0, .inr (.inr (some 0)))], [], gr_sh ++ ext, gr_h I141 J142)
        refine gv_run 2 true hD (pc' := 58) (lv' := [(1, .inl z136), (0, .inr (.inr (some 0)))]) (st' := [.inl 61, .inr (.inr (some 0))]) (h' := gr_h I141 J142) (C := ((True ∧ True) ∧ True)) rfl ⟨⟨trivial, trivial⟩, trivial⟩ ?_
        obtain ⟨r158, h158, E158, P158⟩ := r_need (ws0 := ws0) (tb := tb) hws htb ext I141 J142 hI141 61 ⟨by omega, by omega⟩ (by omega) (by omega) (by omega) (by omega) (by omega)
        obtain ⟨I159, J160, rfl, hI159, g158, k158, ⟨z158, rfl, q158⟩⟩ := P158
        have FI159 := gr_frt FI141 g158 rfl rfl
        have FJ160 := gr_fjt FJ142 k158 rfl rfl
        have t161 := g158 0 69 rfl
        have t162 := g158 0 64 rfl
        have t163 := g158 0 99 rfl
        have t164 := g158 0 122 rfl
        have t165 := g158 0 3 rfl
        have t166 := g158 0 123 rfl
        have f167 := (show 0 ≤ I159 0 71 ∧ I159 0 71 ≤ 5 from (hI159 0 71).1)
        have f168 := (show 0 ≤ I159 0 72 ∧ I159 0 72 ≤ 1000 from (hI159 0 72).1)
        have f169 := (show 0 ≤ I159 0 73 ∧ I159 0 73 ≤ 1001 from (hI159 0 73).1)
        have f170 := (show 0 ≤ I159 0 69 ∧ I159 0 69 ≤ 1000 from (hI159 0 69).1)
        have f171 := (show 0 ≤ I159 0 64 ∧ I159 0 64 ≤ 2000 from (hI159 0 64).1)
        have f172 := (show 0 ≤ I159 0 99 ∧ I159 0 99 ≤ 1000 from (hI159 0 99).1)
        have f173 := (show 0 ≤ I159 0 122 ∧ I159 0 122 ≤ 47 from (hI159 0 122).1)
        have f174 := (show 0 ≤ I159 0 3 ∧ I159 0 3 ≤ 96 from (hI159 0 3).1)
        have f175 := (show 0 ≤ I159 0 123 ∧ I159 0 123 ≤ 95 from (hI159 0 123).1)
        have KTM_I159 := gr_TM_fr KTM_I141 (fun k => g158 52 k rfl) (fun k => g158 53 k rfl) (fun k => g158 54 k rfl) (g158 0 64 rfl)
        have KTO_I159 := gr_TO_fr KTO_I141 (fun k => g158 52 k rfl) (fun k => g158 53 k rfl) (fun k => g158 54 k rfl) (fun k => g158 55 k rfl) (fun k => g158 6 k rfl) (g158 0 64 rfl) (g158 0 3 rfl)
        have KFM_I159 := gr_FM_fr KFM_I141 (fun k => g158 10 k rfl) (fun k => g158 55 k rfl) (fun k => g158 52 k rfl) (fun k => g158 53 k rfl) (fun k => g158 54 k rfl) (g158 0 64 rfl) (g158 0 3 rfl)
        have KMQ_I159 := gr_MQ_fr KMQ_I141 (fun k => g158 10 k rfl) (fun k => g158 55 k rfl) (fun k => g158 52 k rfl) (fun k => g158 53 k rfl) (fun k => g158 54 k rfl) (fun k => g158 60 k rfl) (g158 0 64 rfl) (g158 0 3 rfl) (g158 0 99 rfl)
        refine gv_callV hD rfl (As := [.inl 61]) (st := []) rfl (by decide) rfl rfl (gr_lV hws rfl) (Nat.le_of_ble_eq_true rfl) (gz_Ev_mono (d := 11) (by decide) E158) ?_
        show gv_X _ _ (61, [(1, .inl z136), (0, .inr (.inr (some 0)))], [.inl z158], gr_sh ++ ext, gr_h I159 J160)
        refine gv_if_ne (t := 66) hD rfl rfl ⟨by omega, by omega⟩ (fun c176 => ?_) (fun c176 => ?_)
        · have f177 := (show 0 ≤ I159 0 64 ∧ I159 0 64 ≤ 2000 from (hI159 0 64).1)
          refine gv_run 5 true hD (pc' := 73) (lv' := [(2, .inl (I159 0 64)), (1, .inl z136), (0, .inr (.inr (some 0)))]) (st' := [.inl 0, .inr (.inr (some 0))]) (h' := gr_h I159 J160) (C := (((((True ∧ True) ∧ True) ∧ True) ∧ True) ∧ True)) rfl ⟨⟨⟨⟨⟨trivial, trivial⟩, trivial⟩, trivial⟩, trivial⟩, trivial⟩ ?_
          refine gv_run 1 true hD (pc' := 76) (lv' := [(2, .inl (I159 0 64)), (1, .inl z136), (0, .inr (.inr (some 0)))]) (st' := []) (h' := gz_up (gr_h I159 J160) 0 122 (.inl 0)) (C := (True ∧ True)) rfl ⟨trivial, trivial⟩ ?_
          refine gr_st hI159 FI159 rfl rfl ⟨⟨by show 0 ≤ _; omega, by show _ ≤ 47; omega⟩, trivial⟩ (fun I178 hI178 FI178 q179 p179 => ?_)
          have t180 := p179 0 71 (by decide)
          have t181 := p179 0 72 (by decide)
          have t182 := p179 0 73 (by decide)
          have t183 := p179 0 69 (by decide)
          have t184 := p179 0 64 (by decide)
          have t185 := p179 0 99 (by decide)
          have t186 := p179 0 3 (by decide)
          have t187 := p179 0 123 (by decide)
          have f188 := (show 0 ≤ I178 0 71 ∧ I178 0 71 ≤ 5 from (hI178 0 71).1)
          have f189 := (show 0 ≤ I178 0 72 ∧ I178 0 72 ≤ 1000 from (hI178 0 72).1)
          have f190 := (show 0 ≤ I178 0 73 ∧ I178 0 73 ≤ 1001 from (hI178 0 73).1)
          have f191 := (show 0 ≤ I178 0 69 ∧ I178 0 69 ≤ 1000 from (hI178 0 69).1)
          have f192 := (show 0 ≤ I178 0 64 ∧ I178 0 64 ≤ 2000 from (hI178 0 64).1)
          have f193 := (show 0 ≤ I178 0 99 ∧ I178 0 99 ≤ 1000 from (hI178 0 99).1)
          have f194 := (show 0 ≤ I178 0 122 ∧ I178 0 122 ≤ 47 from (hI178 0 122).1)
          have f195 := (show 0 ≤ I178 0 3 ∧ I178 0 3 ≤ 96 from (hI178 0 3).1)
          have f196 := (show 0 ≤ I178 0 123 ∧ I178 0 123 ≤ 95 from (hI178 0 123).1)
          have KTM_I178 := gr_TM_fr KTM_I159 (fun k => p179 52 k (fun q => absurd q.1 (by decide))) (fun k => p179 53 k (fun q => absurd q.1 (by decide))) (fun k => p179 54 k (fun q => absurd q.1 (by decide))) (p179 0 64 (by decide))
          have KTO_I178 := gr_TO_fr KTO_I159 (fun k => p179 52 k (fun q => absurd q.1 (by decide))) (fun k => p179 53 k (fun q => absurd q.1 (by decide))) (fun k => p179 54 k (fun q => absurd q.1 (by decide))) (fun k => p179 55 k (fun q => absurd q.1 (by decide))) (fun k => p179 6 k (fun q => absurd q.1 (by decide))) (p179 0 64 (by decide)) (p179 0 3 (by decide))
          have KFM_I178 := gr_FM_fr KFM_I159 (fun k => p179 10 k (fun q => absurd q.1 (by decide))) (fun k => p179 55 k (fun q => absurd q.1 (by decide))) (fun k => p179 52 k (fun q => absurd q.1 (by decide))) (fun k => p179 53 k (fun q => absurd q.1 (by decide))) (fun k => p179 54 k (fun q => absurd q.1 (by decide))) (p179 0 64 (by decide)) (p179 0 3 (by decide))
          have KMQ_I178 := gr_MQ_fr KMQ_I159 (fun k => p179 10 k (fun q => absurd q.1 (by decide))) (fun k => p179 55 k (fun q => absurd q.1 (by decide))) (fun k => p179 52 k (fun q => absurd q.1 (by decide))) (fun k => p179 53 k (fun q => absurd q.1 (by decide))) (fun k => p179 54 k (fun q => absurd q.1 (by decide))) (fun k => p179 60 k (fun q => absurd q.1 (by decide))) (p179 0 64 (by decide)) (p179 0 3 (by decide)) (p179 0 99 (by decide))
          refine gv_run 3 true hD (pc' := 81) (lv' := [(2, .inl (I159 0 64)), (1, .inl z136), (0, .inr (.inr (some 0)))]) (st' := []) (h' := gz_up (gr_h I178 J160) 0 123 (.inl z136)) (C := (((True ∧ True) ∧ True) ∧ True)) rfl ⟨⟨⟨trivial, trivial⟩, trivial⟩, trivial⟩ ?_
          refine gr_st hI178 FI178 rfl rfl ⟨⟨by show 0 ≤ _; omega, by show _ ≤ 95; omega⟩, trivial⟩ (fun I197 hI197 FI197 q198 p198 => ?_)
          have t199 := p198 0 71 (by decide)
          have t200 := p198 0 72 (by decide)
          have t201 := p198 0 73 (by decide)
          have t202 := p198 0 69 (by decide)
          have t203 := p198 0 64 (by decide)
          have t204 := p198 0 99 (by decide)
          have t205 := p198 0 122 (by decide)
          have t206 := p198 0 3 (by decide)
          have f207 := (show 0 ≤ I197 0 71 ∧ I197 0 71 ≤ 5 from (hI197 0 71).1)
          have f208 := (show 0 ≤ I197 0 72 ∧ I197 0 72 ≤ 1000 from (hI197 0 72).1)
          have f209 := (show 0 ≤ I197 0 73 ∧ I197 0 73 ≤ 1001 from (hI197 0 73).1)
          have f210 := (show 0 ≤ I197 0 69 ∧ I197 0 69 ≤ 1000 from (hI197 0 69).1)
          have f211 := (show 0 ≤ I197 0 64 ∧ I197 0 64 ≤ 2000 from (hI197 0 64).1)
          have f212 := (show 0 ≤ I197 0 99 ∧ I197 0 99 ≤ 1000 from (hI197 0 99).1)
          have f213 := (show 0 ≤ I197 0 122 ∧ I197 0 122 ≤ 47 from (hI197 0 122).1)
          have f214 := (show 0 ≤ I197 0 3 ∧ I197 0 3 ≤ 96 from (hI197 0 3).1)
          have f215 := (show 0 ≤ I197 0 123 ∧ I197 0 123 ≤ 95 from (hI197 0 123).1)
          have KTM_I197 := gr_TM_fr KTM_I178 (fun k => p198 52 k (fun q => absurd q.1 (by decide))) (fun k => p198 53 k (fun q => absurd q.1 (by decide))) (fun k => p198 54 k (fun q => absurd q.1 (by decide))) (p198 0 64 (by decide))
          have KTO_I197 := gr_TO_fr KTO_I178 (fun k => p198 52 k (fun q => absurd q.1 (by decide))) (fun k => p198 53 k (fun q => absurd q.1 (by decide))) (fun k => p198 54 k (fun q => absurd q.1 (by decide))) (fun k => p198 55 k (fun q => absurd q.1 (by decide))) (fun k => p198 6 k (fun q => absurd q.1 (by decide))) (p198 0 64 (by decide)) (p198 0 3 (by decide))
          have KFM_I197 := gr_FM_fr KFM_I178 (fun k => p198 10 k (fun q => absurd q.1 (by decide))) (fun k => p198 55 k (fun q => absurd q.1 (by decide))) (fun k => p198 52 k (fun q => absurd q.1 (by decide))) (fun k => p198 53 k (fun q => absurd q.1 (by decide))) (fun k => p198 54 k (fun q => absurd q.1 (by decide))) (p198 0 64 (by decide)) (p198 0 3 (by decide))
          have KMQ_I197 := gr_MQ_fr KMQ_I178 (fun k => p198 10 k (fun q => absurd q.1 (by decide))) (fun k => p198 55 k (fun q => absurd q.1 (by decide))) (fun k => p198 52 k (fun q => absurd q.1 (by decide))) (fun k => p198 53 k (fun q => absurd q.1 (by decide))) (fun k => p198 54 k (fun q => absurd q.1 (by decide))) (fun k => p198 60 k (fun q => absurd q.1 (by decide))) (p198 0 64 (by decide)) (p198 0 3 (by decide)) (p198 0 99 (by decide))
          refine gv_run 2 true hD (pc' := 83) (lv' := [(2, .inl (I159 0 64)), (1, .inl z136), (0, .inr (.inr (some 0)))]) (st' := [.inl 1, .inr (.inr (some 0))]) (h' := gr_h I197 J160) (C := ((True ∧ True) ∧ True)) rfl ⟨⟨trivial, trivial⟩, trivial⟩ ?_
          obtain ⟨r216, h216, E216, P216⟩ := r_term_w (ws0 := ws0) (tb := tb) hws htb ext 42 I197 J160 hI197 1 ⟨by omega, by omega⟩ (by omega) (by omega) (by omega) (by omega) (by omega) (by omega) (by omega) (by omega) KTM_I197 KTO_I197 (by omega)
          obtain ⟨I217, J218, rfl, hI217, g216, k216, KTM_I217, KTO_I217, ⟨z216, rfl, q216⟩⟩ := P216
          have FI217 := gr_frt FI197 g216 rfl rfl
          have FJ218 := gr_fjt FJ160 k216 rfl rfl
          have t219 := g216 0 69 rfl
          have t220 := g216 0 99 rfl
          have t221 := g216 0 3 rfl
          have t222 := g216 0 123 rfl
          have f223 := (show 0 ≤ I217 0 71 ∧ I217 0 71 ≤ 5 from (hI217 0 71).1)
          have f224 := (show 0 ≤ I217 0 72 ∧ I217 0 72 ≤ 1000 from (hI217 0 72).1)
          have f225 := (show 0 ≤ I217 0 73 ∧ I217 0 73 ≤ 1001 from (hI217 0 73).1)
          have f226 := (show 0 ≤ I217 0 69 ∧ I217 0 69 ≤ 1000 from (hI217 0 69).1)
          have f227 := (show 0 ≤ I217 0 64 ∧ I217 0 64 ≤ 2000 from (hI217 0 64).1)
          have f228 := (show 0 ≤ I217 0 99 ∧ I217 0 99 ≤ 1000 from (hI217 0 99).1)
          have f229 := (show 0 ≤ I217 0 122 ∧ I217 0 122 ≤ 47 from (hI217 0 122).1)
          have f230 := (show 0 ≤ I217 0 3 ∧ I217 0 3 ≤ 96 from (hI217 0 3).1)
          have f231 := (show 0 ≤ I217 0 123 ∧ I217 0 123 ≤ 95 from (hI217 0 123).1)
          have KFM_I217 : gr_FM I217 := gr_FM_x KFM_I197 q216.2.2.2.2.2.2.2.2.2.2.2.2.2.2.2.2.2 (fun k => g216 10 k rfl) (g216 0 3 rfl) (by omega)
          have KMQ_I217 : gr_MQ I9 I217 := gr_MQ_tm KMQ_I197 q216.2.2.2.2.2.2.2.2.2.2.2.2.2.2.2.2.2 (fun k => g216 10 k rfl) (fun k => g216 60 k rfl) (by omega) (g216 0 3 rfl) (g216 0 99 rfl)
          refine gv_callV hD rfl (As := [.inl 1]) (st := []) rfl (by decide) rfl rfl (gr_lV hws rfl) (Nat.le_of_ble_eq_true rfl) (gz_Ev_mono (d := 98) (by decide) E216) ?_
          show gv_X _ _ (86, [(2, .inl (I159 0 64)), (1, .inl z136), (0, .inr (.inr (some 0)))], [.inl z216], gr_sh ++ ext, gr_h I217 J218)
          refine gv_run 2 true hD (pc' := 88) (lv' := [(3, .inl z216), (2, .inl (I159 0 64)), (1, .inl z136), (0, .inr (.inr (some 0)))]) (st' := [.inl z216]) (h' := gr_h I217 J218) (C := ((True ∧ True) ∧ True)) rfl ⟨⟨trivial, trivial⟩, trivial⟩ ?_
          refine gv_if_lt (t := 114) hD rfl rfl ⟨by omega, by omega⟩ (fun c232 => ?_) (fun c232 => ?_)
          · refine gv_pick [] rfl ?_
            exact L114 I217 J218 hI217 FI217 FJ218 KTM_I217 KTO_I217 KFM_I217 KMQ_I217 (by omega)
          · have f233 := (show 0 ≤ I217 0 64 ∧ I217 0 64 ≤ 2000 from (hI217 0 64).1)
            refine gv_run 6 true hD (pc' := 100) (lv' := [(3, .inl z216), (2, .inl (I159 0 64)), (1, .inl z136), (0, .inr (.inr (some 0)))]) (st' := [.inl 40, .inl ((I217 0 64) - (I159 0 64)), .inr (.inr (some 0))]) (h' := gr_h I217 J218) (C := ((((((True ∧ True) ∧ True) ∧ True) ∧ True) ∧ True) ∧ True)) rfl ⟨⟨⟨⟨⟨⟨trivial, trivial⟩, trivial⟩, trivial⟩, trivial⟩, trivial⟩, trivial⟩ ?_
            refine gv_icmp_gt (t := 107) hD rfl rfl ⟨⟨by omega, by omega⟩, ⟨by omega, by omega⟩⟩ (fun c234 => ?_) (fun c234 => ?_)
            · refine gv_run 1 true hD (pc' := 108) (lv' := [(3, .inl z216), (2, .inl (I159 0 64)), (1, .inl z136), (0, .inr (.inr (some 0)))]) (st' := [.inl 0, .inr (.inr (some 0))]) (h' := gr_h I217 J218) (C := (True ∧ True)) rfl ⟨trivial, trivial⟩ ?_
              refine gv_pick [3, 2, 0] rfl ?_
              exact L108 I217 J218 z136 z216 0 hI217 FI217 FJ218 KTM_I217 KTO_I217 KFM_I217 KMQ_I217 (by omega) (gr_OWN_x q216.2.2.2.2.2.2.2.2.2.2.2.2.2.2.2.2.1 (gr_TS9_rf _) (by omega) (by omega) (by omega))
            · refine gv_run 2 true hD (pc' := 108) (lv' := [(3, .inl z216), (2, .inl (I159 0 64)), (1, .inl z136), (0, .inr (.inr (some 0)))]) (st' := [.inl 1, .inr (.inr (some 0))]) (h' := gr_h I217 J218) (C := ((True ∧ True) ∧ True)) rfl ⟨⟨trivial, trivial⟩, trivial⟩ ?_
              refine gv_pick [3, 2, 0] rfl ?_
              exact L108 I217 J218 z136 z216 1 hI217 FI217 FJ218 KTM_I217 KTO_I217 KFM_I217 KMQ_I217 (by omega) (gr_OWN_x q216.2.2.2.2.2.2.2.2.2.2.2.2.2.2.2.2.1 (gr_TS9_rf _) (by omega) (by omega) (by omega))
        · refine gv_run 1 true hD (pc' := 65) (lv' := [(1, .inl z136), (0, .inr (.inr (some 0)))]) (st' := [.inl 0]) (h' := gr_h I159 J160) (C := (True ∧ True)) rfl ⟨trivial, trivial⟩ ?_
          exact gv_zret hD rfl (by omega) ⟨I159, J160, rfl, hI159, FI159, FJ160, KTM_I159, KTO_I159, KFM_I159, KMQ_I159, ⟨_, rfl, by omega⟩⟩
      · refine gv_run 2 true hD (pc' := 47) (lv' := [(1, .inl z136), (0, .inr (.inr (some 0)))]) (st' := [.inl 4, .inr (.inr (some 0))]) (h' := gr_h I114 J115) (C := ((True ∧ True) ∧ True)) rfl ⟨⟨trivial, trivial⟩, trivial⟩ ?_
        obtain ⟨r235, h235, E235, P235⟩ := r_no_ (ws0 := ws0) (tb := tb) hws htb ext I114 J115 hI114 4 ⟨by omega, by omega⟩ 
        obtain ⟨I236, J237, rfl, hI236, g235, k235, ⟨z235, rfl, q235⟩⟩ := P235
        have FI236 := gr_frt FI114 g235 rfl rfl
        have FJ237 := gr_fjt FJ115 k235 rfl rfl
        have t238 := g235 0 71 rfl
        have t239 := g235 0 72 rfl
        have t240 := g235 0 73 rfl
        have t241 := g235 0 69 rfl
        have t242 := g235 0 64 rfl
        have t243 := g235 0 99 rfl
        have t244 := g235 0 122 rfl
        have t245 := g235 0 3 rfl
        have t246 := g235 0 123 rfl
        have f247 := (show 0 ≤ I236 0 71 ∧ I236 0 71 ≤ 5 from (hI236 0 71).1)
        have f248 := (show 0 ≤ I236 0 72 ∧ I236 0 72 ≤ 1000 from (hI236 0 72).1)
        have f249 := (show 0 ≤ I236 0 73 ∧ I236 0 73 ≤ 1001 from (hI236 0 73).1)
        have f250 := (show 0 ≤ I236 0 69 ∧ I236 0 69 ≤ 1000 from (hI236 0 69).1)
        have f251 := (show 0 ≤ I236 0 64 ∧ I236 0 64 ≤ 2000 from (hI236 0 64).1)
        have f252 := (show 0 ≤ I236 0 99 ∧ I236 0 99 ≤ 1000 from (hI236 0 99).1)
        have f253 := (show 0 ≤ I236 0 122 ∧ I236 0 122 ≤ 47 from (hI236 0 122).1)
        have f254 := (show 0 ≤ I236 0 3 ∧ I236 0 3 ≤ 96 from (hI236 0 3).1)
        have f255 := (show 0 ≤ I236 0 123 ∧ I236 0 123 ≤ 95 from (hI236 0 123).1)
        have KTM_I236 := gr_TM_fr KTM_I114 (fun k => g235 52 k rfl) (fun k => g235 53 k rfl) (fun k => g235 54 k rfl) (g235 0 64 rfl)
        have KTO_I236 := gr_TO_fr KTO_I114 (fun k => g235 52 k rfl) (fun k => g235 53 k rfl) (fun k => g235 54 k rfl) (fun k => g235 55 k rfl) (fun k => g235 6 k rfl) (g235 0 64 rfl) (g235 0 3 rfl)
        have KFM_I236 := gr_FM_fr KFM_I114 (fun k => g235 10 k rfl) (fun k => g235 55 k rfl) (fun k => g235 52 k rfl) (fun k => g235 53 k rfl) (fun k => g235 54 k rfl) (g235 0 64 rfl) (g235 0 3 rfl)
        have KMQ_I236 := gr_MQ_fr KMQ_I114 (fun k => g235 10 k rfl) (fun k => g235 55 k rfl) (fun k => g235 52 k rfl) (fun k => g235 53 k rfl) (fun k => g235 54 k rfl) (fun k => g235 60 k rfl) (g235 0 64 rfl) (g235 0 3 rfl) (g235 0 99 rfl)
        refine gv_callV hD rfl (As := [.inl 4]) (st := []) rfl (by decide) rfl rfl (gr_lV hws rfl) (Nat.le_of_ble_eq_true rfl) (gz_Ev_mono (d := 2) (by decide) E235) ?_
        show gv_X _ _ (50, [(1, .inl z136), (0, .inr (.inr (some 0)))], [.inl z235], gr_sh ++ ext, gr_h I236 J237)
        exact gv_zret hD rfl (by omega) ⟨I236, J237, rfl, hI236, FI236, FJ237, KTM_I236, KTO_I236, KFM_I236, KMQ_I236, ⟨_, rfl, by omega⟩⟩
    · refine gv_run 2 true hD (pc' := 32) (lv' := [(1, .inl z136), (0, .inr (.inr (some 0)))]) (st' := [.inl 5, .inr (.inr (some 0))]) (h' := gr_h I114 J115) (C := ((True ∧ True) ∧ True)) rfl ⟨⟨trivial, trivial⟩, trivial⟩ ?_
      obtain ⟨r256, h256, E256, P256⟩ := r_no_ (ws0 := ws0) (tb := tb) hws htb ext I114 J115 hI114 5 ⟨by omega, by omega⟩ 
      obtain ⟨I257, J258, rfl, hI257, g256, k256, ⟨z256, rfl, q256⟩⟩ := P256
      have FI257 := gr_frt FI114 g256 rfl rfl
      have FJ258 := gr_fjt FJ115 k256 rfl rfl
      have t259 := g256 0 71 rfl
      have t260 := g256 0 72 rfl
      have t261 := g256 0 73 rfl
      have t262 := g256 0 69 rfl
      have t263 := g256 0 64 rfl
      have t264 := g256 0 99 rfl
      have t265 := g256 0 122 rfl
      have t266 := g256 0 3 rfl
      have t267 := g256 0 123 rfl
      have f268 := (show 0 ≤ I257 0 71 ∧ I257 0 71 ≤ 5 from (hI257 0 71).1)
      have f269 := (show 0 ≤ I257 0 72 ∧ I257 0 72 ≤ 1000 from (hI257 0 72).1)
      have f270 := (show 0 ≤ I257 0 73 ∧ I257 0 73 ≤ 1001 from (hI257 0 73).1)
      have f271 := (show 0 ≤ I257 0 69 ∧ I257 0 69 ≤ 1000 from (hI257 0 69).1)
      have f272 := (show 0 ≤ I257 0 64 ∧ I257 0 64 ≤ 2000 from (hI257 0 64).1)
      have f273 := (show 0 ≤ I257 0 99 ∧ I257 0 99 ≤ 1000 from (hI257 0 99).1)
      have f274 := (show 0 ≤ I257 0 122 ∧ I257 0 122 ≤ 47 from (hI257 0 122).1)
      have f275 := (show 0 ≤ I257 0 3 ∧ I257 0 3 ≤ 96 from (hI257 0 3).1)
      have f276 := (show 0 ≤ I257 0 123 ∧ I257 0 123 ≤ 95 from (hI257 0 123).1)
      have KTM_I257 := gr_TM_fr KTM_I114 (fun k => g256 52 k rfl) (fun k => g256 53 k rfl) (fun k => g256 54 k rfl) (g256 0 64 rfl)
      have KTO_I257 := gr_TO_fr KTO_I114 (fun k => g256 52 k rfl) (fun k => g256 53 k rfl) (fun k => g256 54 k rfl) (fun k => g256 55 k rfl) (fun k => g256 6 k rfl) (g256 0 64 rfl) (g256 0 3 rfl)
      have KFM_I257 := gr_FM_fr KFM_I114 (fun k => g256 10 k rfl) (fun k => g256 55 k rfl) (fun k => g256 52 k rfl) (fun k => g256 53 k rfl) (fun k => g256 54 k rfl) (g256 0 64 rfl) (g256 0 3 rfl)
      have KMQ_I257 := gr_MQ_fr KMQ_I114 (fun k => g256 10 k rfl) (fun k => g256 55 k rfl) (fun k => g256 52 k rfl) (fun k => g256 53 k rfl) (fun k => g256 54 k rfl) (fun k => g256 60 k rfl) (g256 0 64 rfl) (g256 0 3 rfl) (g256 0 99 rfl)
      refine gv_callV hD rfl (As := [.inl 5]) (st := []) rfl (by decide) rfl rfl (gr_lV hws rfl) (Nat.le_of_ble_eq_true rfl) (gz_Ev_mono (d := 2) (by decide) E256) ?_
      show gv_X _ _ (35, [(1, .inl z136), (0, .inr (.inr (some 0)))], [.inl z256], gr_sh ++ ext, gr_h I257 J258)
      exact gv_zret hD rfl (by omega) ⟨I257, J258, rfl, hI257, FI257, FJ258, KTM_I257, KTO_I257, KFM_I257, KMQ_I257, ⟨_, rfl, by omega⟩⟩
  · refine gv_run 1 true hD (pc' := 8) (lv' := [(0, .inr (.inr (some 0)))]) (st' := [.inl 0]) (h' := gr_h I114 J115) (C := (True ∧ True)) rfl ⟨trivial, trivial⟩ ?_
    exact gv_zret hD rfl (by omega) ⟨I114, J115, rfl, hI114, FI114, FJ115, KTM_I114, KTO_I114, KFM_I114, KMQ_I114, ⟨_, rfl, by omega⟩⟩
