theorem gr_GR_back {I0 I1 I2 I3 : gr_I} (h0 : gr_GR I0) (h1 : gr_GR I1) (hs : gr_ST I0 I1) (hr : gr_RT8 I0 I1) (hf : gr_FT I1 I2 8) (g3 : ∀ k, I2 36 k = I1 36 k) (g4 : ∀ k, I2 41 k = I1 41 k) (g5 : ∀ k, I2 42 k = I1 42 k) (g6 : ∀ k, I2 43 k = I1 43 k) (g7 : ∀ k, I2 45 k = I1 45 k) (g8 : ∀ k, I2 46 k = I1 46 k) (g9 : ∀ k, I2 47 k = I1 47 k) (g10 : ∀ k, I2 6 k = I1 6 k) (g11 : ∀ k, I2 7 k = I1 7 k) (g12 : ∀ k, I2 8 k = I1 8 k) (h3 : ∀ a k, ¬ (a = 0) → I3 a k = I2 a k) (hu : I3 0 3 = I0 0 3) : gr_GR I3 ∧ gr_ST I0 I3 := by
  have r : ∀ a : Nat, ¬ a = 0 → (∀ k, I2 a k = I1 a k) → ∀ k, I3 a k = I1 a k := fun a ha hk k => (h3 a k ha).trans (hk k)
  refine ⟨⟨fun t k ht hk => ?_, fun t k ht hk => ?_⟩, ⟨⟨by omega, fun f hq => ?_⟩, fun t ht => ?_⟩⟩
  · have e := (gr_back hr hf t ht).2.2.2.2.2.2
    rw [h3 19 t (by decide), e] at hk
    have st := hs.2 t ht
    obtain ⟨a, b⟩ := h1.1 t k ht (by omega)
    obtain ⟨a0, b0⟩ := h0.1 t k ht hk
    refine ⟨a, fun hc => ?_⟩
    have b9 := b hc
    have b8 := (b0 hc).1.1
    have e4 := st.2.1 k hk
    exact gr_LW_c b9 (r _ (by decide) g4 _) (r _ (by decide) g5 _) (r _ (by decide) g7 _) (fun _ _ => r _ (by decide) g6 _) (fun _ _ => r _ (by decide) g8 _) (fun _ _ => r _ (by decide) g9 _) (by rw [hu, e4]; exact b8) (r _ (by decide) g10 _) (fun _ _ => r _ (by decide) g11 _) (r _ (by decide) g12 _)
  · have e := (gr_back hr hf t ht).2.2.2.2.2.1
    rw [h3 18 t (by decide), e] at hk
    have st := hs.2 t ht
    obtain ⟨a, b⟩ := h1.2 t k ht (by omega)
    obtain ⟨a0, b0⟩ := h0.2 t k ht hk
    refine ⟨a, fun hc => ?_⟩
    have b9 := b hc
    have b8 := (b0 hc).1
    have e4 := st.2.2 k hk
    rw [r 36 (by decide) g3, r 6 (by decide) g10, hu]
    exact ⟨by rw [e4]; exact b8, b9.2.1, b9.2.2⟩
  · rw [r 6 (by decide) g10]
    exact hs.1.2 f hq
  · have e := gr_back hr hf t ht
    have st := hs.2 t ht
    rw [h3 19 t (by decide), h3 18 t (by decide), e.2.2.2.2.2.2, e.2.2.2.2.2.1]
    exact ⟨⟨Int.le_refl _, Int.le_refl _⟩, fun k hk => (r 41 (by decide) g4 _).trans (st.2.1 k hk), fun k hk => (r 36 (by decide) g3 _).trans (st.2.2 k hk)⟩
