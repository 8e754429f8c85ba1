/-! PLACES keep codes of trees. -/
def gr_CD (g : Nat → Int) (n : Int) (I : gr_I) : Prop := ∃ π : Nat → Int, π 0 = 1 ∧ (∀ j : Nat, (j : Int) < n → (1 ≤ π j ∧ π (j + 1) = π j - 1 + I 6 (Int.toNat (g j))) ∧ (0 ≤ g j ∧ g j < I 0 3)) ∧ π (Int.toNat n) = 0
theorem gr_CD_of {n : Int} {I : gr_I} (h : gr_SG 1 0 n I) : gr_CD (I 113) n I := by
  obtain ⟨_, π, p1, p2, p3⟩ := h
  exact ⟨π, p1, fun j hj => p2 j (by omega) hj, p3⟩
theorem gr_CD_x {g gₚ : Nat → Int} {n : Int} {I Iₚ : gr_I} (h : gr_CD g n I) (hg : ∀ j : Nat, (j : Int) < n → gₚ j = g j) (h2 : ∀ f : Nat, (f : Int) < I 0 3 → Iₚ 6 f = I 6 f) (h3 : I 0 3 ≤ Iₚ 0 3) : gr_CD gₚ n Iₚ := by
  obtain ⟨π, p1, p2, p3⟩ := h
  refine ⟨π, p1, fun j hj => ?_, p3⟩
  obtain ⟨u, v⟩ := p2 j hj
  rw [hg j hj, h2 _ (by omega)]
  exact ⟨u, by omega⟩
def gr_PX (n : Int) (I : gr_I) : Prop := ∃ π : Nat → Int, gr_PD π n I
theorem gr_PX_of {n : Int} {I : gr_I} (h : gr_CD (I 113) n I) (hn : 0 ≤ n ∧ n ≤ 60) : gr_PX n I := by
  obtain ⟨π, p1, p2, p3⟩ := h
  exact ⟨π, hn, fun j hj => (p2 j hj).1, p3⟩
def gr_PLx (c : Int) (I : gr_I) : Prop := ∀ p : Nat, p < 8 → ¬ (p : Int) = c → I 115 p = 0 ∨ ((0 ≤ I 115 p ∧ I 115 p ≤ 60) ∧ gr_CD (fun j => I 114 (60 * p + j)) (I 115 p) I)
def gr_PL (I : gr_I) : Prop := gr_PLx (-1) I
theorem gr_PLx_x {c : Int} {I Iₚ : gr_I} (h : gr_PLx c I) (h1 : ∀ k, Iₚ 114 k = I 114 k) (h4 : ∀ k, Iₚ 115 k = I 115 k) (h2 : ∀ f : Nat, (f : Int) < I 0 3 → Iₚ 6 f = I 6 f) (h3 : I 0 3 ≤ Iₚ 0 3) : gr_PLx c Iₚ := fun p hp hc => by
  rcases h p hp hc with q | q
  · exact Or.inl (by rw [h4]; exact q)
  · refine Or.inr ⟨by rw [h4]; exact q.1, ?_⟩
    rw [h4]
    exact gr_CD_x q.2 (fun j _ => h1 _) h2 h3
theorem gr_PL_fr {I Iₚ : gr_I} (h : gr_PL I) (h1 : ∀ k, Iₚ 114 k = I 114 k) (h4 : ∀ k, Iₚ 115 k = I 115 k) (h2 : ∀ k, Iₚ 6 k = I 6 k) (h3 : Iₚ 0 3 = I 0 3) : gr_PL Iₚ := gr_PLx_x h h1 h4 (fun f _ => h2 f) (by omega)
theorem gr_PL_st {I Iₚ : gr_I} (h : gr_PL I) (st : gr_ST I Iₚ) (h1 : ∀ k, Iₚ 114 k = I 114 k) (h4 : ∀ k, Iₚ 115 k = I 115 k) : gr_PL Iₚ := gr_PLx_x h h1 h4 st.1.2 st.1.1
def gr_CPL (p k : Int) (I : gr_I) : Prop := (0 ≤ p ∧ p ≤ 7) ∧ gr_PLx p I ∧ ∀ j : Nat, (j : Int) < k → I 114 (60 * Int.toNat p + j) = I 113 j
theorem gr_CPL_0 {p : Int} {I : gr_I} (h : gr_PL I) (hp : 0 ≤ p ∧ p ≤ 7) : gr_CPL p 0 I := ⟨hp, fun q hq hc => h q hq (by omega), fun j hj => by omega⟩
set_option maxHeartbeats 8000000 in
theorem gr_CPL_st {p k : Int} {I Iₚ : gr_I} {i : Nat} (h : gr_CPL p k I) (h0 : 0 ≤ k) (h6 : k ≤ 59) (hi : (i : Int) = 60 * p + k) (pp : ∀ b j, ¬ (b = 114 ∧ j = i) → Iₚ b j = I b j) (q : Iₚ 114 i = I 113 (Int.toNat k)) : gr_CPL p (k + 1) Iₚ := by
  obtain ⟨hp, a, b⟩ := h
  refine ⟨hp, fun c hc hcp => ?_, fun j hj => ?_⟩
  · rw [pp 115 _ (fun q => absurd q.1 (by first | exact gz_ne rfl | decide))]
    rcases a c hc hcp with u | u
    · exact Or.inl u
    · refine Or.inr ⟨u.1, gr_CD_x u.2 (fun j hj => pp _ _ (fun q => by have := q.2; exact gz_m 0 (by omega))) (fun f _ => pp _ _ (fun q => absurd q.1 (by first | exact gz_ne rfl | decide))) (Int.le_of_eq (pp 0 3 (fun q => absurd q.1 (by first | exact gz_ne rfl | decide))).symm)⟩
  · rw [pp 113 _ (fun q => absurd q.1 (by first | exact gz_ne rfl | decide))]
    by_cases c : (j : Int) < k
    · rw [pp _ _ (fun q => by have := q.2; exact gz_m 1 (by omega))]
      exact b j c
    · rw [show 60 * Int.toNat p + j = i from by exact gz_m 2 (by omega), q, show j = Int.toNat k from by exact gz_m 3 (by omega)]
theorem gr_PL_end {p k n : Int} {I Iₚ : gr_I} (h : gr_CPL p k I) (hs : gr_SG 1 0 n I) (hk : n ≤ k) (h6 : n ≤ 60) (pp : ∀ b j, ¬ (b = 115 ∧ j = Int.toNat p) → Iₚ b j = I b j) (q : Iₚ 115 (Int.toNat p) = n) : gr_PL Iₚ := by
  obtain ⟨hp, a, b⟩ := h
  intro c hc _
  have e3 := pp 0 3 (fun q => absurd q.1 (by first | exact gz_ne rfl | decide))
  by_cases e : (c : Int) = p
  · have e9 : c = Int.toNat p := by exact gz_m 0 (by omega)
    subst e9
    rw [q]
    refine Or.inr ⟨⟨hs.1.2, h6⟩, gr_CD_x (gr_CD_of hs) (fun j hj => ?_) (fun f _ => pp _ _ (fun q => absurd q.1 (by first | exact gz_ne rfl | decide))) (by exact gz_m 1 (by omega))⟩
    show Iₚ 114 (60 * Int.toNat p + j) = I 113 j
    rw [pp _ _ (fun q => absurd q.1 (by first | exact gz_ne rfl | decide))]
    exact b j (by exact gz_m 2 (by omega))
  · rw [pp 115 _ (fun q => by have := q.2; exact gz_m 3 (by omega))]
    rcases a c hc e with u | u
    · exact Or.inl u
    · exact Or.inr ⟨u.1, gr_CD_x u.2 (fun j hj => pp _ _ (fun q => absurd q.1 (by first | exact gz_ne rfl | decide))) (fun f _ => pp _ _ (fun q => absurd q.1 (by first | exact gz_ne rfl | decide))) (by exact gz_m 4 (by omega))⟩
def gr_TV (p k : Int) (I Iₚ : gr_I) : Prop := ∀ j : Nat, (j : Int) < k → Iₚ 113 j = I 114 (60 * Int.toNat p + j)
theorem gr_TV_st {p k : Int} {I I1 Iₚ : gr_I} {i : Nat} (h : gr_TV p k I I1) (h0 : 0 ≤ k) (hi : (i : Int) = k) (hp : 0 ≤ p) (pp : ∀ b j, ¬ (b = 113 ∧ j = i) → Iₚ b j = I1 b j) (q : Iₚ 113 i = I 114 (Int.toNat (60 * p + k))) : gr_TV p (k + 1) I Iₚ := fun j hj => by
  by_cases c : (j : Int) < k
  · rw [pp _ _ (fun q => by have := q.2; exact gz_m 0 (by omega))]
    exact h j c
  · rw [show j = i from by exact gz_m 1 (by omega), q, show 60 * Int.toNat p + i = Int.toNat (60 * p + k) from by exact gz_m 2 (by omega)]
set_option maxHeartbeats 8000000 in
theorem gr_PX_tk {p n : Int} {I Iₚ : gr_I} (h : gr_PL I) (hp : 0 ≤ p ∧ p ≤ 7) (hn : n = I 115 (Int.toNat p)) (h0 : ¬ n = 0) (t : gr_TV p n I Iₚ) (h2 : ∀ k, Iₚ 6 k = I 6 k) (h3 : Iₚ 0 3 = I 0 3) : gr_PX n Iₚ ∧ 0 ≤ n ∧ n ≤ 60 := by
  rcases h (Int.toNat p) (by exact gz_m 0 (by omega)) (by exact gz_m 1 (by omega)) with u | u
  · exact gz_m 2 (by omega)
  · rw [← hn] at u
    exact ⟨gr_PX_of (gr_CD_x u.2 t (fun f _ => h2 f) (by exact gz_m 3 (by omega))) u.1, u.1⟩
set_option maxHeartbeats 8000000 in
set_option maxRecDepth 100000 in
theorem r_noTree_w {ws0 : List Cond} {tb : String → gz_T} (hws : ∀ w ∈ gr_ws, w ∈ ws0) (htb : tb RX13 = gr_T) (ext : gz_Sh) : ∀ (nr : Nat) (I : gr_I) (J : gr_J) (hI : gr_Inv I) (a1 : Int) (ha1 : (-1) ≤ a1 ∧ a1 ≤ 31) (x0 : I 0 71 = 5 ∨ I 0 73 ≤ I 0 69) (x1 : I 0 72 ≤ I 0 69) (x2 : I 0 71 = 0 ∨ (I 0 72 < I 0 73 ∧ I 0 72 < I 0 69)) (x3 : I 0 71 = 3 → 2 ≤ I 0 73 - I 0 72 ∧ I 0 73 - I 0 72 ≤ 14) (x4 : I 0 72 ≤ I 0 73) (x5 : I 0 188 ≤ 60) (_ : (61 - I 0 188).toNat < nr), ∃ r hₚ, gz_Ev ws0 tb (10 + nr) (yX13_noTree, cX13_noTree, 4, (some .boolean)) [.inr (.inr (some 0)), .inl a1] (gr_sh ++ ext) (gr_h I J) r (gr_sh ++ ext) hₚ 0 0 ∧ (∃ (Iₚ : gr_I) (Jₚ : gr_J), hₚ = gr_h Iₚ Jₚ ∧ gr_Inv Iₚ ∧ gr_fr [71, 72, 73, 74, 75, 188] [113] I Iₚ ∧ gr_fj [71, 72, 73, 74, 75, 188] [113] J Jₚ ∧ (∃ z : Int, r = some (.inl z) ∧ 0 ≤ z ∧ z ≤ 1 ∧ (Iₚ 0 71 = 5 ∨ Iₚ 0 73 ≤ Iₚ 0 69) ∧ (Iₚ 0 72 ≤ Iₚ 0 69) ∧ (Iₚ 0 71 = 0 ∨ (Iₚ 0 72 < Iₚ 0 73 ∧ Iₚ 0 72 < Iₚ 0 69)) ∧ (Iₚ 0 71 = 3 → 2 ≤ Iₚ 0 73 - Iₚ 0 72 ∧ Iₚ 0 73 - Iₚ 0 72 ≤ 14) ∧ (Iₚ 0 72 ≤ Iₚ 0 73) ∧ (Iₚ 0 69 = I 0 69) ∧ (I 0 73 ≤ Iₚ 0 73) ∧ (I 0 72 ≤ Iₚ 0 72) ∧ (Iₚ 0 188 ≤ 60) ∧ (I 0 188 ≤ Iₚ 0 188) ∧ (gr_TB (I 0 188) I Iₚ) ∧ (gr_o (z = 1) (gr_SG 1 (I 0 188) (Iₚ 0 188) Iₚ)))) := by
  intro nr
  induction nr with
  | zero => intro I J hI a1 ha1 x0 x1 x2 x3 x4 x5 hnr; exact gz_m 0 (by omega)
  | succ nr ihR =>
  intro I J hI a1 ha1 x0 x1 x2 x3 x4 x5 hnr
  have FI : gr_fr [71, 72, 73, 74, 75, 188] [113] I I := fun _ _ _ => rfl
  have FJ : gr_fj [71, 72, 73, 74, 75, 188] [113] J J := fun _ _ _ => rfl
  have hD : gv_D (gr_E ws0 tb (10 + nr) (yX13_noTree, cX13_noTree, 4, (some .boolean)) kX13_noTree) := gq_of oX13_noTree
  refine gr_ev (d := (10 + nr)) (l := kX13_noTree) (Po := fun r hₚ => (∃ (Iₚ : gr_I) (Jₚ : gr_J), hₚ = gr_h Iₚ Jₚ ∧ gr_Inv Iₚ ∧ gr_fr [71, 72, 73, 74, 75, 188] [113] I Iₚ ∧ gr_fj [71, 72, 73, 74, 75, 188] [113] J Jₚ ∧ (∃ z : Int, r = some (.inl z) ∧ 0 ≤ z ∧ z ≤ 1 ∧ (Iₚ 0 71 = 5 ∨ Iₚ 0 73 ≤ Iₚ 0 69) ∧ (Iₚ 0 72 ≤ Iₚ 0 69) ∧ (Iₚ 0 71 = 0 ∨ (Iₚ 0 72 < Iₚ 0 73 ∧ Iₚ 0 72 < Iₚ 0 69)) ∧ (Iₚ 0 71 = 3 → 2 ≤ Iₚ 0 73 - Iₚ 0 72 ∧ Iₚ 0 73 - Iₚ 0 72 ≤ 14) ∧ (Iₚ 0 72 ≤ Iₚ 0 73) ∧ (Iₚ 0 69 = I 0 69) ∧ (I 0 73 ≤ Iₚ 0 73) ∧ (I 0 72 ≤ Iₚ 0 72) ∧ (Iₚ 0 188 ≤ 60) ∧ (I 0 188 ≤ Iₚ 0 188) ∧ (gr_TB (I 0 188) I Iₚ) ∧ (gr_o (z = 1) (gr_SG 1 (I 0 188) (Iₚ 0 188) Iₚ))))) htb rfl (Nat.le_of_ble_eq_true rfl) ?_
  have f1 := (gr_b_0_71 hI)
  have f2 := (gr_b_0_72 hI)
  have f3 := (gr_b_0_73 hI)
  have f4 := (gr_b_0_69 hI)
  have f5 := (gr_b_0_188 hI)
  have L54 : ((I 0 71 = 5 ∨ I 0 73 ≤ I 0 69) ∧ (I 0 72 ≤ I 0 69) ∧ (I 0 71 = 0 ∨ (I 0 72 < I 0 73 ∧ I 0 72 < I 0 69)) ∧ (I 0 71 = 3 → 2 ≤ I 0 73 - I 0 72 ∧ I 0 73 - I 0 72 ≤ 14) ∧ (I 0 72 ≤ I 0 73) ∧ (I 0 69 = I 0 69) ∧ (I 0 73 ≤ I 0 73) ∧ (I 0 72 ≤ I 0 72)) → gv_X (gr_E ws0 tb (10 + nr) (yX13_noTree, cX13_noTree, 4, (some .boolean)) kX13_noTree) (gv_Q cX13_noTree (some .boolean) (gr_sh ++ ext) (fun r hₚ => (∃ (Iₚ : gr_I) (Jₚ : gr_J), hₚ = gr_h Iₚ Jₚ ∧ gr_Inv Iₚ ∧ gr_fr [71, 72, 73, 74, 75, 188] [113] I Iₚ ∧ gr_fj [71, 72, 73, 74, 75, 188] [113] J Jₚ ∧ (∃ z : Int, r = some (.inl z) ∧ 0 ≤ z ∧ z ≤ 1 ∧ (Iₚ 0 71 = 5 ∨ Iₚ 0 73 ≤ Iₚ 0 69) ∧ (Iₚ 0 72 ≤ Iₚ 0 69) ∧ (Iₚ 0 71 = 0 ∨ (Iₚ 0 72 < Iₚ 0 73 ∧ Iₚ 0 72 < Iₚ 0 69)) ∧ (Iₚ 0 71 = 3 → 2 ≤ Iₚ 0 73 - Iₚ 0 72 ∧ Iₚ 0 73 - Iₚ 0 72 ≤ 14) ∧ (Iₚ 0 72 ≤ Iₚ 0 73) ∧ (Iₚ 0 69 = I 0 69) ∧ (I 0 73 ≤ Iₚ 0 73) ∧ (I 0 72 ≤ Iₚ 0 72) ∧ (Iₚ 0 188 ≤ 60) ∧ (I 0 188 ≤ Iₚ 0 188) ∧ (gr_TB (I 0 188) I Iₚ) ∧ (gr_o (z = 1) (gr_SG 1 (I 0 188) (Iₚ 0 188) Iₚ)))))) (54, [], [], gr_sh ++ ext, gr_h I J) := by
    intro m_6
    obtain ⟨e0_6, e1_6, e2_6, e3_6, e4_6, e5_6, e6_6, e7_6⟩ := m_6
    have f7 := (gr_b_0_71 hI)
    have f8 := (gr_b_0_72 hI)
    have f9 := (gr_b_0_73 hI)
    have f10 := (gr_b_0_69 hI)
    have f11 := (gr_b_0_188 hI)
    refine gv_run 1 true hD (pcₚ := 55) (lvₚ := []) (stₚ := [.inl 1]) (hₚ := gr_h I J) (C := (True ∧ True)) rfl ⟨trivial, trivial⟩ ?_
    exact gv_zret hD rfl (by exact gz_m 1 (by omega)) ⟨I, J, rfl, hI, FI, FJ, ⟨_, rfl, by exact gz_m 2 (by omega), by exact gz_m 3 (by omega), by exact gz_m 4 (by omega), by exact gz_m 5 (by omega), by exact gz_m 6 (by omega), by exact gz_m 7 (by omega), by exact gz_m 8 (by omega), by exact gz_m 9 (by omega), by exact gz_m 10 (by omega), by exact gz_m 11 (by omega), by exact gz_m 12 (by omega), by exact gz_m 13 (by omega), (fun j hj => rfl), (gr_o_a (by exact gz_m 14 (by omega)))⟩⟩
  have L45 : ∀ (v2_12 : Int), ((0 ≤ v2_12 ∧ v2_12 ≤ 95) ∧ (I 0 71 = 1) ∧ (v2_12 < I 0 3) ∧ (I 0 71 = 5 ∨ I 0 73 ≤ I 0 69) ∧ (I 0 72 ≤ I 0 69) ∧ (I 0 71 = 0 ∨ (I 0 72 < I 0 73 ∧ I 0 72 < I 0 69)) ∧ (I 0 71 = 3 → 2 ≤ I 0 73 - I 0 72 ∧ I 0 73 - I 0 72 ≤ 14) ∧ (I 0 72 ≤ I 0 73) ∧ (I 0 69 = I 0 69) ∧ (I 0 73 ≤ I 0 73) ∧ (I 0 72 ≤ I 0 72)) → gv_X (gr_E ws0 tb (10 + nr) (yX13_noTree, cX13_noTree, 4, (some .boolean)) kX13_noTree) (gv_Q cX13_noTree (some .boolean) (gr_sh ++ ext) (fun r hₚ => (∃ (Iₚ : gr_I) (Jₚ : gr_J), hₚ = gr_h Iₚ Jₚ ∧ gr_Inv Iₚ ∧ gr_fr [71, 72, 73, 74, 75, 188] [113] I Iₚ ∧ gr_fj [71, 72, 73, 74, 75, 188] [113] J Jₚ ∧ (∃ z : Int, r = some (.inl z) ∧ 0 ≤ z ∧ z ≤ 1 ∧ (Iₚ 0 71 = 5 ∨ Iₚ 0 73 ≤ Iₚ 0 69) ∧ (Iₚ 0 72 ≤ Iₚ 0 69) ∧ (Iₚ 0 71 = 0 ∨ (Iₚ 0 72 < Iₚ 0 73 ∧ Iₚ 0 72 < Iₚ 0 69)) ∧ (Iₚ 0 71 = 3 → 2 ≤ Iₚ 0 73 - Iₚ 0 72 ∧ Iₚ 0 73 - Iₚ 0 72 ≤ 14) ∧ (Iₚ 0 72 ≤ Iₚ 0 73) ∧ (Iₚ 0 69 = I 0 69) ∧ (I 0 73 ≤ Iₚ 0 73) ∧ (I 0 72 ≤ Iₚ 0 72) ∧ (Iₚ 0 188 ≤ 60) ∧ (I 0 188 ≤ Iₚ 0 188) ∧ (gr_TB (I 0 188) I Iₚ) ∧ (gr_o (z = 1) (gr_SG 1 (I 0 188) (Iₚ 0 188) Iₚ)))))) (45, [(0, .inr (.inr (some 0))), (2, .inl v2_12)], [], gr_sh ++ ext, gr_h I J) := by
    intro v2_12 m_12
    obtain ⟨hv2_12, e0_12, e1_12, e2_12, e3_12, e4_12, e5_12, e6_12, e7_12, e8_12, e9_12⟩ := m_12
    have f13 := (gr_b_0_71 hI)
    have f14 := (gr_b_0_72 hI)
    have f15 := (gr_b_0_73 hI)
    have f16 := (gr_b_0_69 hI)
    have f17 := (gr_b_0_188 hI)
    have L79 : ∀ (n : Nat) (I18 : gr_I) (J19 : gr_J) (v3_20 : Int), (5 - v3_20).toNat < n → gr_Inv I18 → gr_fr [71, 72, 73, 74, 75, 188] [113] I I18 → gr_fj [71, 72, 73, 74, 75, 188] [113] J J19 → ((0 ≤ v2_12 ∧ v2_12 ≤ 95) ∧ (0 ≤ v3_20 ∧ v3_20 ≤ 4) ∧ (I18 113 (Int.toNat (I 0 188)) = v2_12) ∧ (v2_12 < I 0 3) ∧ (I18 0 188 ≤ 60) ∧ (I 0 188 < I18 0 188) ∧ (v3_20 ≤ I 6 (Int.toNat v2_12)) ∧ (I18 0 71 = 5 ∨ I18 0 73 ≤ I18 0 69) ∧ (I18 0 72 ≤ I18 0 69) ∧ (I18 0 71 = 0 ∨ (I18 0 72 < I18 0 73 ∧ I18 0 72 < I18 0 69)) ∧ (I18 0 71 = 3 → 2 ≤ I18 0 73 - I18 0 72 ∧ I18 0 73 - I18 0 72 ≤ 14) ∧ (I18 0 72 ≤ I18 0 73) ∧ (I18 0 69 = I 0 69) ∧ (I 0 73 ≤ I18 0 73) ∧ (I 0 72 ≤ I18 0 72)) → (gr_TB (I 0 188) I I18) → (gr_SG v3_20 (I 0 188 + 1) (I18 0 188) I18) → gv_X (gr_E ws0 tb (10 + nr) (yX13_noTree, cX13_noTree, 4, (some .boolean)) kX13_noTree) (gv_Q cX13_noTree (some .boolean) (gr_sh ++ ext) (fun r hₚ => (∃ (Iₚ : gr_I) (Jₚ : gr_J), hₚ = gr_h Iₚ Jₚ ∧ gr_Inv Iₚ ∧ gr_fr [71, 72, 73, 74, 75, 188] [113] I Iₚ ∧ gr_fj [71, 72, 73, 74, 75, 188] [113] J Jₚ ∧ (∃ z : Int, r = some (.inl z) ∧ 0 ≤ z ∧ z ≤ 1 ∧ (Iₚ 0 71 = 5 ∨ Iₚ 0 73 ≤ Iₚ 0 69) ∧ (Iₚ 0 72 ≤ Iₚ 0 69) ∧ (Iₚ 0 71 = 0 ∨ (Iₚ 0 72 < Iₚ 0 73 ∧ Iₚ 0 72 < Iₚ 0 69)) ∧ (Iₚ 0 71 = 3 → 2 ≤ Iₚ 0 73 - Iₚ 0 72 ∧ Iₚ 0 73 - Iₚ 0 72 ≤ 14) ∧ (Iₚ 0 72 ≤ Iₚ 0 73) ∧ (Iₚ 0 69 = I 0 69) ∧ (I 0 73 ≤ Iₚ 0 73) ∧ (I 0 72 ≤ Iₚ 0 72) ∧ (Iₚ 0 188 ≤ 60) ∧ (I 0 188 ≤ Iₚ 0 188) ∧ (gr_TB (I 0 188) I Iₚ) ∧ (gr_o (z = 1) (gr_SG 1 (I 0 188) (Iₚ 0 188) Iₚ)))))) (79, [(0, .inr (.inr (some 0))), (2, .inl v2_12), (3, .inl v3_20)], [], gr_sh ++ ext, gr_h I18 J19) := by
      intro n
      induction n with
      | zero => intro I18 J19 v3_20 hn; exact gz_m 15 (by omega)
      | succ n ih79 =>
        intro I18 J19 v3_20 hn hI18 FI18 FJ19 m_20 e0_20 e1_20
        clear hv2_12 e0_12 e1_12 e2_12 e3_12 e4_12 e5_12 e6_12 e7_12 e8_12 e9_12 f13 f14 f15 f16 f17
        obtain ⟨hv2_12_20, hv3_20, e2_20, e3_20, e4_20, e5_20, e6_20, e7_20, e8_20, e9_20, e10_20, e11_20, e12_20, e13_20, e14_20⟩ := m_20
        have f21 := (gr_b_0_71 hI18)
        have f22 := (gr_b_0_72 hI18)
        have f23 := (gr_b_0_73 hI18)
        have f24 := (gr_b_0_69 hI18)
        have f25 := (gr_b_0_188 hI18)
        have L101 : ∀ (s1_26 : Int), ((0 ≤ v2_12 ∧ v2_12 ≤ 95) ∧ (0 ≤ v3_20 ∧ v3_20 ≤ 3) ∧ (40 ≤ s1_26 ∧ s1_26 ≤ 44) ∧ (I18 113 (Int.toNat (I 0 188)) = v2_12) ∧ (v2_12 < I 0 3) ∧ (I18 0 188 ≤ 60) ∧ (I 0 188 < I18 0 188) ∧ (v3_20 ≤ I 6 (Int.toNat v2_12)) ∧ (v3_20 < I 6 (Int.toNat v2_12)) ∧ (I18 0 71 = 5 ∨ I18 0 73 ≤ I18 0 69) ∧ (I18 0 72 ≤ I18 0 69) ∧ (I18 0 71 = 0 ∨ (I18 0 72 < I18 0 73 ∧ I18 0 72 < I18 0 69)) ∧ (I18 0 71 = 3 → 2 ≤ I18 0 73 - I18 0 72 ∧ I18 0 73 - I18 0 72 ≤ 14) ∧ (I18 0 72 ≤ I18 0 73) ∧ (I18 0 69 = I 0 69) ∧ (I 0 73 ≤ I18 0 73) ∧ (I 0 72 ≤ I18 0 72)) → (gr_TB (I 0 188) I I18) → (gr_SG v3_20 (I 0 188 + 1) (I18 0 188) I18) → gv_X (gr_E ws0 tb (10 + nr) (yX13_noTree, cX13_noTree, 4, (some .boolean)) kX13_noTree) (gv_Q cX13_noTree (some .boolean) (gr_sh ++ ext) (fun r hₚ => (∃ (Iₚ : gr_I) (Jₚ : gr_J), hₚ = gr_h Iₚ Jₚ ∧ gr_Inv Iₚ ∧ gr_fr [71, 72, 73, 74, 75, 188] [113] I Iₚ ∧ gr_fj [71, 72, 73, 74, 75, 188] [113] J Jₚ ∧ (∃ z : Int, r = some (.inl z) ∧ 0 ≤ z ∧ z ≤ 1 ∧ (Iₚ 0 71 = 5 ∨ Iₚ 0 73 ≤ Iₚ 0 69) ∧ (Iₚ 0 72 ≤ Iₚ 0 69) ∧ (Iₚ 0 71 = 0 ∨ (Iₚ 0 72 < Iₚ 0 73 ∧ Iₚ 0 72 < Iₚ 0 69)) ∧ (Iₚ 0 71 = 3 → 2 ≤ Iₚ 0 73 - Iₚ 0 72 ∧ Iₚ 0 73 - Iₚ 0 72 ≤ 14) ∧ (Iₚ 0 72 ≤ Iₚ 0 73) ∧ (Iₚ 0 69 = I 0 69) ∧ (I 0 73 ≤ Iₚ 0 73) ∧ (I 0 72 ≤ Iₚ 0 72) ∧ (Iₚ 0 188 ≤ 60) ∧ (I 0 188 ≤ Iₚ 0 188) ∧ (gr_TB (I 0 188) I Iₚ) ∧ (gr_o (z = 1) (gr_SG 1 (I 0 188) (Iₚ 0 188) Iₚ)))))) (101, [(0, .inr (.inr (some 0))), (2, .inl v2_12), (3, .inl v3_20)], [.inl s1_26, .inr (.inr (some 0))], gr_sh ++ ext, gr_h I18 J19) := by
          intro s1_26 m_26 e0_26 e1_26
          obtain ⟨hv2_12_26, hv3_20_26, hs1_26, e2_26, e3_26, e4_26, e5_26, e6_26, e7_26, e8_26, e9_26, e10_26, e11_26, e12_26, e13_26, e14_26, e15_26⟩ := m_26
          have f27 := (gr_b_0_71 hI18)
          have f28 := (gr_b_0_72 hI18)
          have f29 := (gr_b_0_73 hI18)
          have f30 := (gr_b_0_69 hI18)
          have f31 := (gr_b_0_188 hI18)
          obtain ⟨r32, h32, E32, P32⟩ := r_sign (ws0 := ws0) (tb := tb) hws htb ext I18 J19 hI18 s1_26 ⟨by exact gz_m 16 (by omega), by exact gz_m 17 (by omega)⟩ (by exact gz_m 18 (by omega))
          obtain ⟨rfl, ⟨z32, rfl, q32⟩⟩ := P32
          refine gv_callV hD rfl (As := [.inl s1_26]) (st := []) rfl (by decide) rfl rfl (gr_lV hws rfl) (Nat.le_of_ble_eq_true rfl) (gz_Ev_mono (d := 1) (by exact gz_m 19 (by omega)) E32) ?_
          show gv_X _ _ (104, [(0, .inr (.inr (some 0))), (2, .inl v2_12), (3, .inl v3_20)], [.inl z32], gr_sh ++ ext, gr_h I18 J19)
          refine gv_if_ne (t := 109) hD rfl rfl ⟨by exact gz_m 20 (by omega), by exact gz_m 21 (by omega)⟩ (fun c33 => ?_) (fun c33 => ?_)
          · refine gv_run 1 true hD (pcₚ := 110) (lvₚ := [(0, .inr (.inr (some 0))), (2, .inl v2_12), (3, .inl v3_20)]) (stₚ := [.inr (.inr (some 0))]) (hₚ := gr_h I18 J19) (C := (True ∧ True)) rfl ⟨trivial, trivial⟩ ?_
            obtain ⟨r34, h34, E34, P34⟩ := r_next (ws0 := ws0) (tb := tb) hws htb ext I18 J19 hI18   (by exact gz_m 22 (by omega))
            obtain ⟨I35, J36, rfl, hI35, g34, k34, ⟨rfl, q34⟩⟩ := P34
            have FI35 := gr_frt FI18 g34 rfl rfl
            have FJ36 := gr_fjt FJ19 k34 rfl rfl
            have t37 := g34 0 69 rfl
            have t38 := g34 0 188 rfl
            have t39 := g34 113 (Int.toNat (I 0 188)) rfl
            have f40 := (gr_b_0_71 hI35)
            have f41 := (gr_b_0_72 hI35)
            have f42 := (gr_b_0_73 hI35)
            have f43 := (gr_b_0_69 hI35)
            have f44 := (gr_b_0_188 hI35)
            refine gv_callV hD rfl (As := []) (st := []) rfl (by decide) rfl rfl (gr_lV hws rfl) (Nat.le_of_ble_eq_true rfl) (gz_Ev_mono (d := 10) (by exact gz_m 23 (by omega)) E34) ?_
            show gv_X _ _ (113, [(0, .inr (.inr (some 0))), (2, .inl v2_12), (3, .inl v3_20)], [], gr_sh ++ ext, gr_h I35 J36)
            refine gv_run 7 true hD (pcₚ := 122) (lvₚ := [(0, .inr (.inr (some 0))), (2, .inl v2_12), (3, .inl v3_20)]) (stₚ := [.inl v3_20, .inl (4 * v2_12), .inr (.inr (some 7)), .inr (.inr (some 0))]) (hₚ := gr_h I35 J36) (C := (((((((True ∧ True) ∧ True) ∧ True) ∧ True) ∧ True) ∧ True) ∧ True)) rfl ⟨⟨⟨⟨⟨⟨⟨trivial, trivial⟩, trivial⟩, trivial⟩, trivial⟩, trivial⟩, trivial⟩, trivial⟩ ?_
            have f45 := (gr_b_7 hI35 (Int.toNat (((4 * v2_12) + v3_20))))
            refine gv_run 2 true hD (pcₚ := 124) (lvₚ := [(0, .inr (.inr (some 0))), (2, .inl v2_12), (3, .inl v3_20)]) (stₚ := [.inl (I35 7 (Int.toNat (((4 * v2_12) + v3_20)))), .inr (.inr (some 0))]) (hₚ := gr_h I35 J36) (C := ((True ∧ True) ∧ (0 ≤ (((4 * v2_12) + v3_20)) ∧ (((4 * v2_12) + v3_20)) < ((384 : Nat) : Int)))) rfl ⟨⟨trivial, trivial⟩, ⟨by exact gz_m 24 (by omega), by exact gz_m 25 (by omega)⟩⟩ ?_
            rw [FI35 7 (Int.toNat (((4 * v2_12) + v3_20))) rfl]
            have f46 := (gr_b_7 hI (Int.toNat (((4 * v2_12) + v3_20))))
            obtain ⟨r47, h47, E47, P47⟩ := ihR I35 J36 hI35 ((I 7 (Int.toNat (((4 * v2_12) + v3_20))))) ⟨by exact gz_m 26 (by omega), by exact gz_m 27 (by omega)⟩ (by exact gz_m 28 (by omega)) (by exact gz_m 29 (by omega)) (by exact gz_m 30 (by omega)) (by exact gz_m 31 (by omega)) (by exact gz_m 32 (by omega)) (by exact gz_m 33 (by omega)) (by exact gz_m 34 (by omega))
            obtain ⟨I48, J49, rfl, hI48, g47, k47, ⟨z47, rfl, q47⟩⟩ := P47
            have FI48 := gr_frt FI35 g47 rfl rfl
            have FJ49 := gr_fjt FJ36 k47 rfl rfl
            have t50 := g47 0 69 rfl
            have f51 := (gr_b_0_71 hI48)
            have f52 := (gr_b_0_72 hI48)
            have f53 := (gr_b_0_73 hI48)
            have f54 := (gr_b_0_69 hI48)
            have f55 := (gr_b_0_188 hI48)
            have t56 := q47.2.2.2.2.2.2.2.2.2.2.2.2.1 (Int.toNat (I 0 188)) (by exact gz_m 35 (by omega))
            refine gv_callV hD rfl (As := [.inl (I 7 (Int.toNat (((4 * v2_12) + v3_20))))]) (st := []) rfl (by decide) rfl rfl (gr_lV hws rfl) (Nat.le_of_ble_eq_true rfl) (gz_Ev_mono (d := (10 + nr)) (Nat.le_refl _) E47) ?_
            show gv_X _ _ (127, [(0, .inr (.inr (some 0))), (2, .inl v2_12), (3, .inl v3_20)], [.inl z47], gr_sh ++ ext, gr_h I48 J49)
            refine gv_if_eq (t := 132) hD rfl rfl ⟨by exact gz_m 36 (by omega), by exact gz_m 37 (by omega)⟩ (fun c57 => ?_) (fun c57 => ?_)
            · refine gv_run 2 true hD (pcₚ := 79) (lvₚ := [(3, .inl (v3_20 + 1)), (0, .inr (.inr (some 0))), (2, .inl v2_12)]) (stₚ := []) (hₚ := gr_h I48 J49) (C := ((True ∧ True) ∧ True)) rfl ⟨⟨trivial, trivial⟩, trivial⟩ ?_
              refine gv_pick [1, 2, 0] rfl ?_
              exact ih79 I48 J49 (v3_20 + 1) (by exact gz_m 38 (by omega)) hI48 FI48 FJ49 (by exact gz_m 39 (by omega)) (fun j hj => ((q47.2.2.2.2.2.2.2.2.2.2.2.2.1 j (by exact gz_m 40 (by omega))).trans ((g34 113 j rfl).trans (e0_26 j hj)))) (gr_SG_ap (gr_SG_fr (by rw [show I35 0 188 = I18 0 188 from by exact gz_m 41 (by omega)]; exact gr_SG_fr e1_26 (fun j _ _ => g34 113 j rfl) (fun f _ => g34 6 f rfl) (Int.le_of_eq (g34 0 3 rfl).symm)) (fun j _ hj => q47.2.2.2.2.2.2.2.2.2.2.2.2.1 j hj) (fun f _ => g47 6 f rfl) (Int.le_of_eq (g47 0 3 rfl).symm)) (gr_o_x q47.2.2.2.2.2.2.2.2.2.2.2.2.2 (by exact gz_m 42 (by omega))))
            · refine gv_run 1 true hD (pcₚ := 131) (lvₚ := [(0, .inr (.inr (some 0))), (2, .inl v2_12), (3, .inl v3_20)]) (stₚ := [.inl 1]) (hₚ := gr_h I48 J49) (C := (True ∧ True)) rfl ⟨trivial, trivial⟩ ?_
              exact gv_zret hD rfl (by exact gz_m 43 (by omega)) ⟨I48, J49, rfl, hI48, FI48, FJ49, ⟨_, rfl, by exact gz_m 44 (by omega), by exact gz_m 45 (by omega), by exact gz_m 46 (by omega), by exact gz_m 47 (by omega), by exact gz_m 48 (by omega), by exact gz_m 49 (by omega), by exact gz_m 50 (by omega), by exact gz_m 51 (by omega), by exact gz_m 52 (by omega), by exact gz_m 53 (by omega), by exact gz_m 54 (by omega), by exact gz_m 55 (by omega), (fun j hj => ((q47.2.2.2.2.2.2.2.2.2.2.2.2.1 j (by exact gz_m 56 (by omega))).trans ((g34 113 j rfl).trans (e0_26 j hj)))), (gr_o_a (by exact gz_m 57 (by omega)))⟩⟩
          · refine gv_run 1 true hD (pcₚ := 108) (lvₚ := [(0, .inr (.inr (some 0))), (2, .inl v2_12), (3, .inl v3_20)]) (stₚ := [.inl 1]) (hₚ := gr_h I18 J19) (C := (True ∧ True)) rfl ⟨trivial, trivial⟩ ?_
            exact gv_zret hD rfl (by exact gz_m 58 (by omega)) ⟨I18, J19, rfl, hI18, FI18, FJ19, ⟨_, rfl, by exact gz_m 59 (by omega), by exact gz_m 60 (by omega), by exact gz_m 61 (by omega), by exact gz_m 62 (by omega), by exact gz_m 63 (by omega), by exact gz_m 64 (by omega), by exact gz_m 65 (by omega), by exact gz_m 66 (by omega), by exact gz_m 67 (by omega), by exact gz_m 68 (by omega), by exact gz_m 69 (by omega), by exact gz_m 70 (by omega), (fun j hj => (e0_26 j hj)), (gr_o_a (by exact gz_m 71 (by omega)))⟩⟩
        have f58 := (gr_b_6 hI18 (Int.toNat v2_12))
        refine gv_run 5 true hD (pcₚ := 86) (lvₚ := [(0, .inr (.inr (some 0))), (2, .inl v2_12), (3, .inl v3_20)]) (stₚ := [.inl (I18 6 (Int.toNat v2_12)), .inl v3_20]) (hₚ := gr_h I18 J19) (C := (((((True ∧ True) ∧ True) ∧ True) ∧ True) ∧ (0 ≤ v2_12 ∧ v2_12 < ((96 : Nat) : Int)))) rfl ⟨⟨⟨⟨⟨trivial, trivial⟩, trivial⟩, trivial⟩, trivial⟩, ⟨by exact gz_m 72 (by omega), by exact gz_m 73 (by omega)⟩⟩ ?_
        rw [FI18 6 (Int.toNat v2_12) rfl]
        have f59 := (gr_b_6 hI (Int.toNat v2_12))
        refine gv_icmp_ge (t := 138) hD rfl rfl ⟨⟨by exact gz_m 74 (by omega), by exact gz_m 75 (by omega)⟩, ⟨by exact gz_m 76 (by omega), by exact gz_m 77 (by omega)⟩⟩ (fun c60 => ?_) (fun c60 => ?_)
        · have f61 := (gr_b_6 hI18 (Int.toNat v2_12))
          refine gv_run 4 true hD (pcₚ := 144) (lvₚ := [(0, .inr (.inr (some 0))), (2, .inl v2_12), (3, .inl v3_20)]) (stₚ := [.inl (I18 6 (Int.toNat v2_12))]) (hₚ := gr_h I18 J19) (C := ((((True ∧ True) ∧ True) ∧ True) ∧ (0 ≤ v2_12 ∧ v2_12 < ((96 : Nat) : Int)))) rfl ⟨⟨⟨⟨trivial, trivial⟩, trivial⟩, trivial⟩, ⟨by exact gz_m 78 (by omega), by exact gz_m 79 (by omega)⟩⟩ ?_
          rw [FI18 6 (Int.toNat v2_12) rfl]
          have f62 := (gr_b_6 hI (Int.toNat v2_12))
          refine gv_if_ne (t := 149) hD rfl rfl ⟨by exact gz_m 80 (by omega), by exact gz_m 81 (by omega)⟩ (fun c63 => ?_) (fun c63 => ?_)
          · refine gv_run 2 true hD (pcₚ := 152) (lvₚ := [(0, .inr (.inr (some 0))), (2, .inl v2_12), (3, .inl v3_20)]) (stₚ := [.inl 41, .inr (.inr (some 0))]) (hₚ := gr_h I18 J19) (C := ((True ∧ True) ∧ True)) rfl ⟨⟨trivial, trivial⟩, trivial⟩ ?_
            obtain ⟨r64, h64, E64, P64⟩ := r_sign (ws0 := ws0) (tb := tb) hws htb ext I18 J19 hI18 41 ⟨by exact gz_m 82 (by omega), by exact gz_m 83 (by omega)⟩ (by exact gz_m 84 (by omega))
            obtain ⟨rfl, ⟨z64, rfl, q64⟩⟩ := P64
            refine gv_callV hD rfl (As := [.inl 41]) (st := []) rfl (by decide) rfl rfl (gr_lV hws rfl) (Nat.le_of_ble_eq_true rfl) (gz_Ev_mono (d := 1) (by exact gz_m 85 (by omega)) E64) ?_
            show gv_X _ _ (155, [(0, .inr (.inr (some 0))), (2, .inl v2_12), (3, .inl v3_20)], [.inl z64], gr_sh ++ ext, gr_h I18 J19)
            refine gv_if_ne (t := 160) hD rfl rfl ⟨by exact gz_m 86 (by omega), by exact gz_m 87 (by omega)⟩ (fun c65 => ?_) (fun c65 => ?_)
            · refine gv_run 1 true hD (pcₚ := 161) (lvₚ := [(0, .inr (.inr (some 0))), (2, .inl v2_12), (3, .inl v3_20)]) (stₚ := [.inr (.inr (some 0))]) (hₚ := gr_h I18 J19) (C := (True ∧ True)) rfl ⟨trivial, trivial⟩ ?_
              obtain ⟨r66, h66, E66, P66⟩ := r_next (ws0 := ws0) (tb := tb) hws htb ext I18 J19 hI18   (by exact gz_m 88 (by omega))
              obtain ⟨I67, J68, rfl, hI67, g66, k66, ⟨rfl, q66⟩⟩ := P66
              have FI67 := gr_frt FI18 g66 rfl rfl
              have FJ68 := gr_fjt FJ19 k66 rfl rfl
              have t69 := g66 0 69 rfl
              have t70 := g66 0 188 rfl
              have t71 := g66 113 (Int.toNat (I 0 188)) rfl
              have f72 := (gr_b_0_71 hI67)
              have f73 := (gr_b_0_72 hI67)
              have f74 := (gr_b_0_73 hI67)
              have f75 := (gr_b_0_69 hI67)
              have f76 := (gr_b_0_188 hI67)
              refine gv_callV hD rfl (As := []) (st := []) rfl (by decide) rfl rfl (gr_lV hws rfl) (Nat.le_of_ble_eq_true rfl) (gz_Ev_mono (d := 10) (by exact gz_m 89 (by omega)) E66) ?_
              show gv_X _ _ (164, [(0, .inr (.inr (some 0))), (2, .inl v2_12), (3, .inl v3_20)], [], gr_sh ++ ext, gr_h I67 J68)
              refine gv_run 1 true hD (pcₚ := 165) (lvₚ := [(0, .inr (.inr (some 0))), (2, .inl v2_12), (3, .inl v3_20)]) (stₚ := [.inl 0]) (hₚ := gr_h I67 J68) (C := (True ∧ True)) rfl ⟨trivial, trivial⟩ ?_
              exact gv_zret hD rfl (by exact gz_m 90 (by omega)) ⟨I67, J68, rfl, hI67, FI67, FJ68, ⟨_, rfl, by exact gz_m 91 (by omega), by exact gz_m 92 (by omega), by exact gz_m 93 (by omega), by exact gz_m 94 (by omega), by exact gz_m 95 (by omega), by exact gz_m 96 (by omega), by exact gz_m 97 (by omega), by exact gz_m 98 (by omega), by exact gz_m 99 (by omega), by exact gz_m 100 (by omega), by exact gz_m 101 (by omega), by exact gz_m 102 (by omega), (fun j hj => ((g66 113 j rfl).trans (e0_20 j hj))), (gr_o_b (gr_SG_nd (m := v3_20) (f := v2_12) (by rw [show I67 0 188 = I18 0 188 from by exact gz_m 103 (by omega)]; exact gr_SG_fr e1_20 (fun j _ _ => g66 113 j rfl) (fun f _ => g66 6 f rfl) (Int.le_of_eq (g66 0 3 rfl).symm)) (by exact gz_m 104 (by omega)) (by rw [FI67 6 _ rfl]; exact gz_m 105 (by omega)) (by exact gz_m 106 (by omega)) ⟨by exact gz_m 107 (by omega), by rw [FI67 0 3 rfl]; exact gz_m 108 (by omega)⟩))⟩⟩
            · refine gv_run 1 true hD (pcₚ := 159) (lvₚ := [(0, .inr (.inr (some 0))), (2, .inl v2_12), (3, .inl v3_20)]) (stₚ := [.inl 1]) (hₚ := gr_h I18 J19) (C := (True ∧ True)) rfl ⟨trivial, trivial⟩ ?_
              exact gv_zret hD rfl (by exact gz_m 109 (by omega)) ⟨I18, J19, rfl, hI18, FI18, FJ19, ⟨_, rfl, by exact gz_m 110 (by omega), by exact gz_m 111 (by omega), by exact gz_m 112 (by omega), by exact gz_m 113 (by omega), by exact gz_m 114 (by omega), by exact gz_m 115 (by omega), by exact gz_m 116 (by omega), by exact gz_m 117 (by omega), by exact gz_m 118 (by omega), by exact gz_m 119 (by omega), by exact gz_m 120 (by omega), by exact gz_m 121 (by omega), (fun j hj => (e0_20 j hj)), (gr_o_a (by exact gz_m 122 (by omega)))⟩⟩
          · refine gv_run 1 true hD (pcₚ := 148) (lvₚ := [(0, .inr (.inr (some 0))), (2, .inl v2_12), (3, .inl v3_20)]) (stₚ := [.inl 0]) (hₚ := gr_h I18 J19) (C := (True ∧ True)) rfl ⟨trivial, trivial⟩ ?_
            exact gv_zret hD rfl (by exact gz_m 123 (by omega)) ⟨I18, J19, rfl, hI18, FI18, FJ19, ⟨_, rfl, by exact gz_m 124 (by omega), by exact gz_m 125 (by omega), by exact gz_m 126 (by omega), by exact gz_m 127 (by omega), by exact gz_m 128 (by omega), by exact gz_m 129 (by omega), by exact gz_m 130 (by omega), by exact gz_m 131 (by omega), by exact gz_m 132 (by omega), by exact gz_m 133 (by omega), by exact gz_m 134 (by omega), by exact gz_m 135 (by omega), (fun j hj => (e0_20 j hj)), (gr_o_b (gr_SG_nd (m := v3_20) (f := v2_12) e1_20 (by exact gz_m 136 (by omega)) (by rw [FI18 6 _ rfl]; exact gz_m 137 (by omega)) (by exact gz_m 138 (by omega)) ⟨by exact gz_m 139 (by omega), by rw [FI18 0 3 rfl]; exact gz_m 140 (by omega)⟩))⟩⟩
        · refine gv_run 2 true hD (pcₚ := 91) (lvₚ := [(0, .inr (.inr (some 0))), (2, .inl v2_12), (3, .inl v3_20)]) (stₚ := [.inl v3_20, .inr (.inr (some 0))]) (hₚ := gr_h I18 J19) (C := ((True ∧ True) ∧ True)) rfl ⟨⟨trivial, trivial⟩, trivial⟩ ?_
          refine gv_if_ne (t := 99) hD rfl rfl ⟨by exact gz_m 141 (by omega), by exact gz_m 142 (by omega)⟩ (fun c77 => ?_) (fun c77 => ?_)
          · refine gv_run 1 true hD (pcₚ := 101) (lvₚ := [(0, .inr (.inr (some 0))), (2, .inl v2_12), (3, .inl v3_20)]) (stₚ := [.inl 44, .inr (.inr (some 0))]) (hₚ := gr_h I18 J19) (C := (True ∧ True)) rfl ⟨trivial, trivial⟩ ?_
            exact L101 44 (by exact gz_m 143 (by omega)) (fun j hj => (e0_20 j hj)) e1_20
          · refine gv_run 2 true hD (pcₚ := 101) (lvₚ := [(0, .inr (.inr (some 0))), (2, .inl v2_12), (3, .inl v3_20)]) (stₚ := [.inl 40, .inr (.inr (some 0))]) (hₚ := gr_h I18 J19) (C := ((True ∧ True) ∧ True)) rfl ⟨⟨trivial, trivial⟩, trivial⟩ ?_
            exact L101 40 (by exact gz_m 144 (by omega)) (fun j hj => (e0_20 j hj)) e1_20
    have f78 := (gr_b_0_188 hI)
    refine gv_run 3 true hD (pcₚ := 51) (lvₚ := [(0, .inr (.inr (some 0))), (2, .inl v2_12)]) (stₚ := [.inl 60, .inl (I 0 188)]) (hₚ := gr_h I J) (C := (((True ∧ True) ∧ True) ∧ True)) rfl ⟨⟨⟨trivial, trivial⟩, trivial⟩, trivial⟩ ?_
    refine gv_icmp_ne (t := 56) hD rfl rfl ⟨⟨by exact gz_m 145 (by omega), by exact gz_m 146 (by omega)⟩, ⟨by exact gz_m 147 (by omega), by exact gz_m 148 (by omega)⟩⟩ (fun c79 => ?_) (fun c79 => ?_)
    · have f80 := (gr_b_0_188 hI)
      refine gv_run 7 true hD (pcₚ := 67) (lvₚ := [(0, .inr (.inr (some 0))), (2, .inl v2_12)]) (stₚ := [.inl 1, .inl (I 0 188), .inr (.inr (some 0)), .inl (I 0 188), .inr (.inr (some 113))]) (hₚ := gr_h I J) (C := (((((((True ∧ True) ∧ True) ∧ True) ∧ True) ∧ True) ∧ True) ∧ True)) rfl ⟨⟨⟨⟨⟨⟨⟨trivial, trivial⟩, trivial⟩, trivial⟩, trivial⟩, trivial⟩, trivial⟩, trivial⟩ ?_
      refine gv_run 2 true hD (pcₚ := 71) (lvₚ := [(0, .inr (.inr (some 0))), (2, .inl v2_12)]) (stₚ := [.inl (I 0 188), .inr (.inr (some 113))]) (hₚ := gz_up (gr_h I J) 0 188 (.inl (((I 0 188) + 1)))) (C := ((True ∧ True) ∧ True)) rfl ⟨⟨trivial, trivial⟩, trivial⟩ ?_
      refine gr_st hI FI rfl rfl ⟨⟨by show 0 ≤ _; exact gz_m 149 (by omega), by show _ ≤ 2000; exact gz_m 150 (by omega)⟩, trivial⟩ (fun I81 hI81 FI81 q82 p82 => ?_)
      have t83 := p82 0 71 (by decide)
      have t84 := p82 0 72 (by decide)
      have t85 := p82 0 73 (by decide)
      have t86 := p82 0 69 (by decide)
      have t87 := p82 113 (Int.toNat (I 0 188)) (fun q => absurd q.1 (by first | exact gz_ne rfl | decide))
      have f88 := (gr_b_0_71 hI81)
      have f89 := (gr_b_0_72 hI81)
      have f90 := (gr_b_0_73 hI81)
      have f91 := (gr_b_0_69 hI81)
      have f92 := (gr_b_0_188 hI81)
      refine gv_run 2 true hD (pcₚ := 73) (lvₚ := [(0, .inr (.inr (some 0))), (2, .inl v2_12)]) (stₚ := []) (hₚ := gz_up (gr_h I81 J) 113 (Int.toNat ((I 0 188))) (.inl v2_12)) (C := ((True ∧ True) ∧ (0 ≤ (I 0 188) ∧ (I 0 188) < ((2000 : Nat) : Int)))) rfl ⟨⟨trivial, trivial⟩, ⟨by exact gz_m 151 (by omega), by exact gz_m 152 (by omega)⟩⟩ ?_
      refine gr_st hI81 FI81 rfl rfl ⟨⟨by show 0 ≤ _; exact gz_m 153 (by omega), by show _ ≤ 95; exact gz_m 154 (by omega)⟩, trivial⟩ (fun I93 hI93 FI93 q94 p94 => ?_)
      have t95 := p94 0 71 (fun q => absurd q.1 (by first | exact gz_ne rfl | decide))
      have t96 := p94 0 72 (fun q => absurd q.1 (by first | exact gz_ne rfl | decide))
      have t97 := p94 0 73 (fun q => absurd q.1 (by first | exact gz_ne rfl | decide))
      have t98 := p94 0 69 (fun q => absurd q.1 (by first | exact gz_ne rfl | decide))
      have t99 := p94 0 188 (fun q => absurd q.1 (by first | exact gz_ne rfl | decide))
      have f100 := (gr_b_0_71 hI93)
      have f101 := (gr_b_0_72 hI93)
      have f102 := (gr_b_0_73 hI93)
      have f103 := (gr_b_0_69 hI93)
      have f104 := (gr_b_0_188 hI93)
      refine gv_run 1 true hD (pcₚ := 74) (lvₚ := [(0, .inr (.inr (some 0))), (2, .inl v2_12)]) (stₚ := [.inr (.inr (some 0))]) (hₚ := gr_h I93 J) (C := (True ∧ True)) rfl ⟨trivial, trivial⟩ ?_
      obtain ⟨r105, h105, E105, P105⟩ := r_next (ws0 := ws0) (tb := tb) hws htb ext I93 J hI93   (by exact gz_m 155 (by omega))
      obtain ⟨I106, J107, rfl, hI106, g105, k105, ⟨rfl, q105⟩⟩ := P105
      have FI106 := gr_frt FI93 g105 rfl rfl
      have FJ107 := gr_fjt FJ k105 rfl rfl
      have t108 := g105 0 69 rfl
      have t109 := g105 0 188 rfl
      have t110 := g105 113 (Int.toNat (I 0 188)) rfl
      have f111 := (gr_b_0_71 hI106)
      have f112 := (gr_b_0_72 hI106)
      have f113 := (gr_b_0_73 hI106)
      have f114 := (gr_b_0_69 hI106)
      have f115 := (gr_b_0_188 hI106)
      refine gv_callV hD rfl (As := []) (st := []) rfl (by decide) rfl rfl (gr_lV hws rfl) (Nat.le_of_ble_eq_true rfl) (gz_Ev_mono (d := 10) (by exact gz_m 156 (by omega)) E105) ?_
      show gv_X _ _ (77, [(0, .inr (.inr (some 0))), (2, .inl v2_12)], [], gr_sh ++ ext, gr_h I106 J107)
      have t116 := (gr_b_6 hI (Int.toNat v2_12))
      refine gv_run 2 true hD (pcₚ := 79) (lvₚ := [(3, .inl 0), (0, .inr (.inr (some 0))), (2, .inl v2_12)]) (stₚ := []) (hₚ := gr_h I106 J107) (C := ((True ∧ True) ∧ True)) rfl ⟨⟨trivial, trivial⟩, trivial⟩ ?_
      refine gv_pick [1, 2, 0] rfl ?_
      exact L79 _ I106 J107 0 (Nat.lt_succ_self _) hI106 FI106 FJ107 (by exact gz_m 157 (by omega)) (fun j hj => ((g105 113 j rfl).trans ((p94 113 j (fun q => by have h8 := q.2; exact gz_m 158 (by omega))).trans (p82 113 j (fun q => absurd q.1 (by first | exact gz_ne rfl | decide)))))) (by rw [show I106 0 188 = I 0 188 + 1 from by exact gz_m 159 (by omega)]; exact gr_SG_0 (by exact gz_m 160 (by omega)))
    · refine gv_pick [] rfl ?_
      exact L54 (by exact gz_m 161 (by omega))
  have f117 := (gr_b_0_71 hI)
  refine gv_run 3 true hD (pcₚ := 5) (lvₚ := [(0, .inr (.inr (some 0))), (1, .inl a1)]) (stₚ := [.inl 1, .inl (I 0 71)]) (hₚ := gr_h I J) (C := (((True ∧ True) ∧ True) ∧ True)) rfl ⟨⟨⟨trivial, trivial⟩, trivial⟩, trivial⟩ ?_
  refine gv_icmp_eq (t := 10) hD rfl rfl ⟨⟨by exact gz_m 162 (by omega), by exact gz_m 163 (by omega)⟩, ⟨by exact gz_m 164 (by omega), by exact gz_m 165 (by omega)⟩⟩ (fun c118 => ?_) (fun c118 => ?_)
  · have f119 := (gr_b_0_3 hI)
    refine gv_run 7 true hD (pcₚ := 23) (lvₚ := [(0, .inr (.inr (some 0))), (1, .inl a1)]) (stₚ := [.inr (.inl (J 0 75)), .inl (I 0 3), .inl 0, .inr (.inr (some 3))]) (hₚ := gr_h I J) (C := (((((((True ∧ True) ∧ True) ∧ True) ∧ True) ∧ True) ∧ True) ∧ True)) rfl ⟨⟨⟨⟨⟨⟨⟨trivial, trivial⟩, trivial⟩, trivial⟩, trivial⟩, trivial⟩, trivial⟩, trivial⟩ ?_
    obtain ⟨r120, h120, E120, P120⟩ := r_find_3 (ws0 := ws0) (tb := tb) hws htb ext I J hI 0 (I 0 3) (J 0 75) ⟨by exact gz_m 166 (by omega), by exact gz_m 167 (by omega)⟩ ⟨by exact gz_m 168 (by omega), by exact gz_m 169 (by omega)⟩ (by exact gz_m 170 (by omega))
    obtain ⟨rfl, ⟨z120, rfl, q120⟩⟩ := P120
    refine gv_callS hD rfl (As := [.inr (.inr (some 3)), .inl 0, .inl (I 0 3), .inr (.inl (J 0 75))]) (st := []) rfl (gr_lS hws rfl) (Nat.le_of_ble_eq_true rfl) (gz_Ev_mono (d := 1) (by exact gz_m 171 (by omega)) E120) ?_
    show gv_X _ _ (26, [(0, .inr (.inr (some 0))), (1, .inl a1)], [.inl z120], gr_sh ++ ext, gr_h I J)
    refine gv_run 2 true hD (pcₚ := 28) (lvₚ := [(2, .inl z120), (0, .inr (.inr (some 0))), (1, .inl a1)]) (stₚ := [.inl z120]) (hₚ := gr_h I J) (C := ((True ∧ True) ∧ True)) rfl ⟨⟨trivial, trivial⟩, trivial⟩ ?_
    refine gv_if_lt (t := 54) hD rfl rfl ⟨by exact gz_m 172 (by omega), by exact gz_m 173 (by omega)⟩ (fun c121 => ?_) (fun c121 => ?_)
    · refine gv_pick [] rfl ?_
      exact L54 (by exact gz_m 174 (by omega))
    · refine gv_run 1 true hD (pcₚ := 32) (lvₚ := [(2, .inl z120), (0, .inr (.inr (some 0))), (1, .inl a1)]) (stₚ := [.inl a1]) (hₚ := gr_h I J) (C := (True ∧ True)) rfl ⟨trivial, trivial⟩ ?_
      refine gv_if_lt (t := 45) hD rfl rfl ⟨by exact gz_m 175 (by omega), by exact gz_m 176 (by omega)⟩ (fun c122 => ?_) (fun c122 => ?_)
      · refine gv_pick [1, 0] rfl ?_
        exact L45 z120 (by exact gz_m 177 (by omega))
      · have f123 := (gr_b_8 hI (Int.toNat z120))
        refine gv_run 4 true hD (pcₚ := 41) (lvₚ := [(2, .inl z120), (0, .inr (.inr (some 0))), (1, .inl a1)]) (stₚ := [.inl (I 8 (Int.toNat z120))]) (hₚ := gr_h I J) (C := ((((True ∧ True) ∧ True) ∧ True) ∧ (0 ≤ z120 ∧ z120 < ((96 : Nat) : Int)))) rfl ⟨⟨⟨⟨trivial, trivial⟩, trivial⟩, trivial⟩, ⟨by exact gz_m 178 (by omega), by exact gz_m 179 (by omega)⟩⟩ ?_
        refine gv_run 1 true hD (pcₚ := 42) (lvₚ := [(2, .inl z120), (0, .inr (.inr (some 0))), (1, .inl a1)]) (stₚ := [.inl a1, .inl (I 8 (Int.toNat z120))]) (hₚ := gr_h I J) (C := (True ∧ True)) rfl ⟨trivial, trivial⟩ ?_
        refine gv_icmp_ne (t := 54) hD rfl rfl ⟨⟨by exact gz_m 180 (by omega), by exact gz_m 181 (by omega)⟩, ⟨by exact gz_m 182 (by omega), by exact gz_m 183 (by omega)⟩⟩ (fun c124 => ?_) (fun c124 => ?_)
        · refine gv_pick [] rfl ?_
          exact L54 (by exact gz_m 184 (by omega))
        · refine gv_pick [1, 0] rfl ?_
          exact L45 z120 (by exact gz_m 185 (by omega))
  · refine gv_run 1 true hD (pcₚ := 9) (lvₚ := [(0, .inr (.inr (some 0))), (1, .inl a1)]) (stₚ := [.inl 1]) (hₚ := gr_h I J) (C := (True ∧ True)) rfl ⟨trivial, trivial⟩ ?_
    exact gv_zret hD rfl (by exact gz_m 186 (by omega)) ⟨I, J, rfl, hI, FI, FJ, ⟨_, rfl, by exact gz_m 187 (by omega), by exact gz_m 188 (by omega), by exact gz_m 189 (by omega), by exact gz_m 190 (by omega), by exact gz_m 191 (by omega), by exact gz_m 192 (by omega), by exact gz_m 193 (by omega), by exact gz_m 194 (by omega), by exact gz_m 195 (by omega), by exact gz_m 196 (by omega), by exact gz_m 197 (by omega), by exact gz_m 198 (by omega), (fun j hj => rfl), (gr_o_a (by exact gz_m 199 (by omega)))⟩⟩
