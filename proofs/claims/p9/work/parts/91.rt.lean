def gr_AS (I : gr_I) (m : Int) : Prop := ∀ k : Int, 0 ≤ k → k < m → I 130 (Int.toNat k) + I 131 (Int.toNat k) ≤ 1000 ∧ (I 131 (Int.toNat k) = -2 ∨ 0 ≤ I 130 (Int.toNat k))
theorem gr_AS_fr {I Iₚ : gr_I} {m : Int} (h : gr_AS I m) (h1 : ∀ k, Iₚ 130 k = I 130 k) (h2 : ∀ k, Iₚ 131 k = I 131 k) : gr_AS Iₚ m := fun k a b => by
  rw [h1, h2]
  exact h k a b
theorem gr_AS_nx {I Iₚ : gr_I} {m : Int} (h : gr_AS I m) (h0 : 0 ≤ m) (hf : ∀ a j, j < Int.toNat m → Iₚ a j = I a j) (hq : Iₚ 130 (Int.toNat m) + Iₚ 131 (Int.toNat m) ≤ 1000 ∧ (Iₚ 131 (Int.toNat m) = -2 ∨ 0 ≤ Iₚ 130 (Int.toNat m))) : gr_AS Iₚ (m + 1) := fun k a b => by
  by_cases hk : k < m
  · rw [hf 130 (Int.toNat k) (by omega), hf 131 (Int.toNat k) (by omega)]
    exact h k a hk
  · have e : k = m := by omega
    subst e
    exact hq
set_option maxHeartbeats 8000000 in
set_option maxRecDepth 100000 in
theorem r_plus {ws0 : List Cond} {tb : String → gz_T} (hws : ∀ w ∈ gr_ws, w ∈ ws0) (htb : tb RX13 = gr_T) (ext : gz_Sh) (I : gr_I) (J : gr_J) (hI : gr_Inv I) (a1 : Int64) (a2 : Int64)   : ∃ r hₚ, gz_Ev ws0 tb 2 (yX13_plus, cX13_plus, 4, (some .long)) [.inr (.inl a1), .inr (.inl a2)] (gr_sh ++ ext) (gr_h I J) r (gr_sh ++ ext) hₚ 0 0 ∧ (hₚ = gr_h I J ∧ (∃ z : Int64, r = some (.inr (.inl z)))) := by
  have hD : gv_D (gr_E ws0 tb 1 (yX13_plus, cX13_plus, 4, (some .long)) kX13_plus) := gq_of oX13_plus
  refine gr_ev (d := 1) (l := kX13_plus) (Po := fun r hₚ => (hₚ = gr_h I J ∧ (∃ z : Int64, r = some (.inr (.inl z))))) htb rfl (Nat.le_of_ble_eq_true rfl) ?_
  refine gv_run 4 true hD (pcₚ := 6) (lvₚ := [(0, .inr (.inl a1)), (2, .inr (.inl a2))]) (stₚ := [.inr (.inl (a1 + a2)), .inr (.inl (1000000000000000000))]) (hₚ := gr_h I J) (C := ((((True ∧ True) ∧ True) ∧ True) ∧ True)) rfl ⟨⟨⟨⟨trivial, trivial⟩, trivial⟩, trivial⟩, trivial⟩ ?_
  obtain ⟨z1, E1, q1⟩ := gj_minl (ws0 := ws0) (tb := tb) (sh := gr_sh ++ ext) (h := gr_h I J) (1000000000000000000) (a1 + a2)
  refine gv_callS hD rfl (As := [.inr (.inl (1000000000000000000)), .inr (.inl (a1 + a2))]) (st := []) rfl (gr_lMl hws) (Nat.le_of_ble_eq_true rfl) (gz_Ev_mono (d := 1) (by decide) E1) ?_
  show gv_X _ _ (9, [(0, .inr (.inl a1)), (2, .inr (.inl a2))], [.inr (.inl z1)], gr_sh ++ ext, gr_h I J)
  exact gv_lret hD rfl ⟨rfl, ⟨_, rfl⟩⟩
