theorem gr_RT8_l {I0 I1 I2 : gr_I} (h : gr_RT8 I1 I2) (h0 : ∀ k, I1 13 k = I0 13 k) (h1 : ∀ k, I1 14 k = I0 14 k) (h2 : ∀ k, I1 15 k = I0 15 k) (h3 : ∀ k, I1 16 k = I0 16 k) (h4 : ∀ k, I1 17 k = I0 17 k) (h5 : ∀ k, I1 18 k = I0 18 k) (h6 : ∀ k, I1 19 k = I0 19 k) : gr_RT8 I0 I2 := fun t a b => by
  have h9 := h t a b
  rw [h0, h1, h2, h3, h4, h5, h6] at h9
  exact h9
