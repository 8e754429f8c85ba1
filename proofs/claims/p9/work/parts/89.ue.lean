theorem gc_mkT_b {sh : gz_Sh} {ro : Nat → Nat} {A : gc_A} {I I1 I2 I3 : gr_I} {n : Int} (h : gc_mkT A I1 I2 n) (hT : gc_Ts sh ro A I) (hn : n ≤ I 8 1) (p : ∀ q j, ¬ (q = 39 ∧ j = 3) → I1 q j = I q j) (hm : ∀ k, I3 21 k = I2 21 k) : gc_mkT A I I3 n := fun j hj q hq => by
  obtain ⟨q9, b1, b2, b3⟩ := hT j (by omega)
  cases b1.symm.trans hq
  have h0 := h j hj _ hq
  unfold gc_ts7 at h0 ⊢
  obtain ⟨a0, a1, a2, a3, a4, a5, a6⟩ := h0
  exact ⟨((hm _).trans a0).trans (p _ _ (fun e => by omega)), ((hm _).trans a1).trans (p _ _ (fun e => by omega)), ((hm _).trans a2).trans (p _ _ (fun e => by omega)), ((hm _).trans a3).trans (p _ _ (fun e => by omega)), ((hm _).trans a4).trans (p _ _ (fun e => by omega)), ((hm _).trans a5).trans (p _ _ (fun e => by omega)), ((hm _).trans a6).trans (p _ _ (fun e => by omega))⟩
