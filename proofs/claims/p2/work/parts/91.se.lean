def gr_S3a (I : gr_I) : Prop := I 71 (Int.toNat (I 0 119)) ≤ 3
def gr_S3 (I : gr_I) : Prop := I 70 (Int.toNat (I 0 119)) = 2 ∨ I 71 (Int.toNat (I 0 119)) ≤ 3
theorem gr_S3a_st {I : gr_I} {k : Nat} {z : Int} (q : I 71 k = z) (hz : z ≤ 3) (hk : k = Int.toNat (I 0 119)) : gr_S3a I := by
  unfold gr_S3a
  rw [← hk, q]
  exact hz
theorem gr_S3a_fr {I I' : gr_I} (h : gr_S3a I) (h1 : ∀ k, I' 71 k = I 71 k) (h2 : I' 0 119 = I 0 119) : gr_S3a I' := by
  unfold gr_S3a
  rw [h2, h1]
  exact h
theorem gr_S3_fr {I I' : gr_I} (h : gr_S3 I) (h1 : ∀ k, I' 71 k = I 71 k) (h0 : ∀ k, I' 70 k = I 70 k) (h2 : I' 0 119 = I 0 119) : gr_S3 I' := by
  unfold gr_S3
  rw [h2, h1, h0]
  exact h
theorem gr_S3_h {I I' : gr_I} {k : Nat} {z : Int} (q : I 70 k = 2) (h1 : I' 70 k = I 70 k) (hk : k = Int.toNat (I' 0 119)) : gr_S3 I' := Or.inl (by rw [← hk, h1]; exact q)
set_option maxHeartbeats 4000000 in
set_option maxRecDepth 100000 in
theorem r_said_w {ws0 : List Cond} {tb : String → gz_T} (hws : ∀ w ∈ gr_ws, w ∈ ws0) (htb : tb RX13 = gr_T) (ext : gz_Sh) (I : gr_I) (J : gr_J) (hI : gr_Inv I) (a1 : Int) (ha1 : 0 ≤ a1 ∧ a1 ≤ 95) (x0 : I 0 71 = 5 ∨ I 0 73 ≤ I 0 69) (x1 : I 0 72 ≤ I 0 69) (x2 : I 0 71 = 0 ∨ (I 0 72 < I 0 73 ∧ I 0 72 < I 0 69)) (x3 : I 0 71 = 3 → 2 ≤ I 0 73 - I 0 72 ∧ I 0 73 - I 0 72 ≤ 14) (x4 : I 0 72 ≤ I 0 73) (x5 : 0 ≤ I 0 6) (x6 : gr_R1 a1 I) : ∃ r h', gz_Ev ws0 tb 12 (yX13_said, cX13_said, 3, (some .boolean)) [.inr (.inr (some 0)), .inl a1] (gr_sh ++ ext) (gr_h I J) r (gr_sh ++ ext) h' 0 0 ∧ (∃ (I' : gr_I) (J' : gr_J), h' = gr_h I' J' ∧ gr_Inv I' ∧ gr_fr [71, 72, 73, 74, 75, 76, 77, 119, 120] [70, 71, 72, 73] I I' ∧ gr_fj [71, 72, 73, 74, 75, 76, 77, 119, 120] [70, 71, 72, 73] J J' ∧ (∃ z : Int, r = some (.inl z) ∧ 0 ≤ z ∧ z ≤ 1 ∧ (I' 0 71 = 5 ∨ I' 0 73 ≤ I' 0 69) ∧ (I' 0 72 ≤ I' 0 69) ∧ (I' 0 71 = 0 ∨ (I' 0 72 < I' 0 73 ∧ I' 0 72 < I' 0 69)) ∧ (I' 0 71 = 3 → 2 ≤ I' 0 73 - I' 0 72 ∧ I' 0 73 - I' 0 72 ≤ 14) ∧ (I' 0 72 ≤ I' 0 73) ∧ (I' 0 69 = I 0 69) ∧ (I 0 73 ≤ I' 0 73) ∧ (I 0 72 ≤ I' 0 72) ∧ (gr_o (z = 0) (gr_R1 a1 I')))) := by
  have FI : gr_fr [71, 72, 73, 74, 75, 76, 77, 119, 120] [70, 71, 72, 73] I I := fun _ _ _ => rfl
  have FJ : gr_fj [71, 72, 73, 74, 75, 76, 77, 119, 120] [70, 71, 72, 73] J J := fun _ _ _ => rfl
  have hD : gv_D (gr_E ws0 tb 11 (yX13_said, cX13_said, 3, (some .boolean)) kX13_said) := gq_ok oX13_said
  refine gr_ev (d := 11) (l := kX13_said) (Po := fun r h' => (∃ (I' : gr_I) (J' : gr_J), h' = gr_h I' J' ∧ gr_Inv I' ∧ gr_fr [71, 72, 73, 74, 75, 76, 77, 119, 120] [70, 71, 72, 73] I I' ∧ gr_fj [71, 72, 73, 74, 75, 76, 77, 119, 120] [70, 71, 72, 73] J J' ∧ (∃ z : Int, r = some (.inl z) ∧ 0 ≤ z ∧ z ≤ 1 ∧ (I' 0 71 = 5 ∨ I' 0 73 ≤ I' 0 69) ∧ (I' 0 72 ≤ I' 0 69) ∧ (I' 0 71 = 0 ∨ (I' 0 72 < I' 0 73 ∧ I' 0 72 < I' 0 69)) ∧ (I' 0 71 = 3 → 2 ≤ I' 0 73 - I' 0 72 ∧ I' 0 73 - I' 0 72 ≤ 14) ∧ (I' 0 72 ≤ I' 0 73) ∧ (I' 0 69 = I 0 69) ∧ (I 0 73 ≤ I' 0 73) ∧ (I 0 72 ≤ I' 0 72) ∧ (gr_o (z = 0) (gr_R1 a1 I'))))) htb rfl (Nat.le_of_ble_eq_true rfl) ?_
  have f1 := (show 0 ≤ I 0 71 ∧ I 0 71 ≤ 5 from (hI 0 71).1)
  have f2 := (show 0 ≤ I 0 72 ∧ I 0 72 ≤ 1000 from (hI 0 72).1)
  have f3 := (show 0 ≤ I 0 73 ∧ I 0 73 ≤ 1001 from (hI 0 73).1)
  have f4 := (show 0 ≤ I 0 69 ∧ I 0 69 ≤ 1000 from (hI 0 69).1)
  have f5 := (show (-1) ≤ I 0 6 ∧ I 0 6 ≤ 7 from (hI 0 6).1)
  have f6 := (show 0 ≤ I 0 119 ∧ I 0 119 ≤ 6 from (hI 0 119).1)
  have f7 := (show 0 ≤ I 0 118 ∧ I 0 118 ≤ 6 from (hI 0 118).1)
  have f8 := (show 0 ≤ I 0 120 ∧ I 0 120 ≤ 3 from (hI 0 120).1)
  have L28 : ((0 ≤ a1 ∧ a1 ≤ 95) ∧ (I 0 119 = I 0 119) ∧ (I 0 71 = 1) ∧ (I 0 71 = 5 ∨ I 0 73 ≤ I 0 69) ∧ (I 0 72 ≤ I 0 69) ∧ (I 0 71 = 0 ∨ (I 0 72 < I 0 73 ∧ I 0 72 < I 0 69)) ∧ (I 0 71 = 3 → 2 ≤ I 0 73 - I 0 72 ∧ I 0 73 - I 0 72 ≤ 14) ∧ (I 0 72 ≤ I 0 73) ∧ (I 0 69 = I 0 69) ∧ (I 0 73 ≤ I 0 73) ∧ (I 0 72 ≤ I 0 72) ∧ (I 0 6 = I 0 6)) → (gr_R1 a1 I) → gv_X (gr_E ws0 tb 11 (yX13_said, cX13_said, 3, (some .boolean)) kX13_said) (gv_Q cX13_said (some .boolean) (gr_sh ++ ext) (fun r h' => (∃ (I' : gr_I) (J' : gr_J), h' = gr_h I' J' ∧ gr_Inv I' ∧ gr_fr [71, 72, 73, 74, 75, 76, 77, 119, 120] [70, 71, 72, 73] I I' ∧ gr_fj [71, 72, 73, 74, 75, 76, 77, 119, 120] [70, 71, 72, 73] J J' ∧ (∃ z : Int, r = some (.inl z) ∧ 0 ≤ z ∧ z ≤ 1 ∧ (I' 0 71 = 5 ∨ I' 0 73 ≤ I' 0 69) ∧ (I' 0 72 ≤ I' 0 69) ∧ (I' 0 71 = 0 ∨ (I' 0 72 < I' 0 73 ∧ I' 0 72 < I' 0 69)) ∧ (I' 0 71 = 3 → 2 ≤ I' 0 73 - I' 0 72 ∧ I' 0 73 - I' 0 72 ≤ 14) ∧ (I' 0 72 ≤ I' 0 73) ∧ (I' 0 69 = I 0 69) ∧ (I 0 73 ≤ I' 0 73) ∧ (I 0 72 ≤ I' 0 72) ∧ (gr_o (z = 0) (gr_R1 a1 I')))))) (28, [(0, .inr (.inr (some 0))), (1, .inl a1)], [], gr_sh ++ ext, gr_h I J) := by
    intro m_9 e2_9
    obtain ⟨ha1_9, e0_9, e1_9, e3_9, e4_9, e5_9, e6_9, e7_9, e8_9, e9_9, e10_9, e11_9⟩ := m_9
    have f10 := (show 0 ≤ I 0 71 ∧ I 0 71 ≤ 5 from (hI 0 71).1)
    have f11 := (show 0 ≤ I 0 72 ∧ I 0 72 ≤ 1000 from (hI 0 72).1)
    have f12 := (show 0 ≤ I 0 73 ∧ I 0 73 ≤ 1001 from (hI 0 73).1)
    have f13 := (show 0 ≤ I 0 69 ∧ I 0 69 ≤ 1000 from (hI 0 69).1)
    have f14 := (show (-1) ≤ I 0 6 ∧ I 0 6 ≤ 7 from (hI 0 6).1)
    have f15 := (show 0 ≤ I 0 119 ∧ I 0 119 ≤ 6 from (hI 0 119).1)
    have f16 := (show 0 ≤ I 0 118 ∧ I 0 118 ≤ 6 from (hI 0 118).1)
    have f17 := (show 0 ≤ I 0 120 ∧ I 0 120 ≤ 3 from (hI 0 120).1)
    have L43 : ((0 ≤ a1 ∧ a1 ≤ 95) ∧ (I 0 119 ≤ 5) ∧ (I 0 71 = 1) ∧ (I 0 71 = 5 ∨ I 0 73 ≤ I 0 69) ∧ (I 0 72 ≤ I 0 69) ∧ (I 0 71 = 0 ∨ (I 0 72 < I 0 73 ∧ I 0 72 < I 0 69)) ∧ (I 0 71 = 3 → 2 ≤ I 0 73 - I 0 72 ∧ I 0 73 - I 0 72 ≤ 14) ∧ (I 0 72 ≤ I 0 73) ∧ (I 0 69 = I 0 69) ∧ (I 0 73 ≤ I 0 73) ∧ (I 0 72 ≤ I 0 72) ∧ (I 0 6 = I 0 6)) → (gr_R1 a1 I) → gv_X (gr_E ws0 tb 11 (yX13_said, cX13_said, 3, (some .boolean)) kX13_said) (gv_Q cX13_said (some .boolean) (gr_sh ++ ext) (fun r h' => (∃ (I' : gr_I) (J' : gr_J), h' = gr_h I' J' ∧ gr_Inv I' ∧ gr_fr [71, 72, 73, 74, 75, 76, 77, 119, 120] [70, 71, 72, 73] I I' ∧ gr_fj [71, 72, 73, 74, 75, 76, 77, 119, 120] [70, 71, 72, 73] J J' ∧ (∃ z : Int, r = some (.inl z) ∧ 0 ≤ z ∧ z ≤ 1 ∧ (I' 0 71 = 5 ∨ I' 0 73 ≤ I' 0 69) ∧ (I' 0 72 ≤ I' 0 69) ∧ (I' 0 71 = 0 ∨ (I' 0 72 < I' 0 73 ∧ I' 0 72 < I' 0 69)) ∧ (I' 0 71 = 3 → 2 ≤ I' 0 73 - I' 0 72 ∧ I' 0 73 - I' 0 72 ≤ 14) ∧ (I' 0 72 ≤ I' 0 73) ∧ (I' 0 69 = I 0 69) ∧ (I 0 73 ≤ I' 0 73) ∧ (I 0 72 ≤ I' 0 72) ∧ (gr_o (z = 0) (gr_R1 a1 I')))))) (43, [(0, .inr (.inr (some 0))), (1, .inl a1)], [], gr_sh ++ ext, gr_h I J) := by
      intro m_18 e2_18
      obtain ⟨ha1_18, e0_18, e1_18, e3_18, e4_18, e5_18, e6_18, e7_18, e8_18, e9_18, e10_18, e11_18⟩ := m_18
      have f19 := (show 0 ≤ I 0 71 ∧ I 0 71 ≤ 5 from (hI 0 71).1)
      have f20 := (show 0 ≤ I 0 72 ∧ I 0 72 ≤ 1000 from (hI 0 72).1)
      have f21 := (show 0 ≤ I 0 73 ∧ I 0 73 ≤ 1001 from (hI 0 73).1)
      have f22 := (show 0 ≤ I 0 69 ∧ I 0 69 ≤ 1000 from (hI 0 69).1)
      have f23 := (show (-1) ≤ I 0 6 ∧ I 0 6 ≤ 7 from (hI 0 6).1)
      have f24 := (show 0 ≤ I 0 119 ∧ I 0 119 ≤ 6 from (hI 0 119).1)
      have f25 := (show 0 ≤ I 0 118 ∧ I 0 118 ≤ 6 from (hI 0 118).1)
      have f26 := (show 0 ≤ I 0 120 ∧ I 0 120 ≤ 3 from (hI 0 120).1)
      have L284 : ∀ (I27 : gr_I) (J28 : gr_J) , gr_Inv I27 → gr_fr [71, 72, 73, 74, 75, 76, 77, 119, 120] [70, 71, 72, 73] I I27 → gr_fj [71, 72, 73, 74, 75, 76, 77, 119, 120] [70, 71, 72, 73] J J28 → ((I27 0 119 ≤ 5) ∧ (I27 0 71 = 5 ∨ I27 0 73 ≤ I27 0 69) ∧ (I27 0 72 ≤ I27 0 69) ∧ (I27 0 71 = 0 ∨ (I27 0 72 < I27 0 73 ∧ I27 0 72 < I27 0 69)) ∧ (I27 0 71 = 3 → 2 ≤ I27 0 73 - I27 0 72 ∧ I27 0 73 - I27 0 72 ≤ 14) ∧ (I27 0 72 ≤ I27 0 73) ∧ (I27 0 69 = I 0 69) ∧ (I 0 73 ≤ I27 0 73) ∧ (I 0 72 ≤ I27 0 72) ∧ (I27 0 6 = I 0 6)) → (gr_R1 a1 I27) → (gr_S3 I27) → gv_X (gr_E ws0 tb 11 (yX13_said, cX13_said, 3, (some .boolean)) kX13_said) (gv_Q cX13_said (some .boolean) (gr_sh ++ ext) (fun r h' => (∃ (I' : gr_I) (J' : gr_J), h' = gr_h I' J' ∧ gr_Inv I' ∧ gr_fr [71, 72, 73, 74, 75, 76, 77, 119, 120] [70, 71, 72, 73] I I' ∧ gr_fj [71, 72, 73, 74, 75, 76, 77, 119, 120] [70, 71, 72, 73] J J' ∧ (∃ z : Int, r = some (.inl z) ∧ 0 ≤ z ∧ z ≤ 1 ∧ (I' 0 71 = 5 ∨ I' 0 73 ≤ I' 0 69) ∧ (I' 0 72 ≤ I' 0 69) ∧ (I' 0 71 = 0 ∨ (I' 0 72 < I' 0 73 ∧ I' 0 72 < I' 0 69)) ∧ (I' 0 71 = 3 → 2 ≤ I' 0 73 - I' 0 72 ∧ I' 0 73 - I' 0 72 ≤ 14) ∧ (I' 0 72 ≤ I' 0 73) ∧ (I' 0 69 = I 0 69) ∧ (I 0 73 ≤ I' 0 73) ∧ (I 0 72 ≤ I' 0 72) ∧ (gr_o (z = 0) (gr_R1 a1 I')))))) (284, [(0, .inr (.inr (some 0)))], [], gr_sh ++ ext, gr_h I27 J28) := by
        intro I27 J28 hI27 FI27 FJ28 m_29 e1_29 e2_29
        clear ha1_18 e0_18 e1_18 e3_18 e4_18 e5_18 e6_18 e7_18 e8_18 e9_18 e10_18 e11_18 f19 f20 f21 f22 f23 f24 f25 f26 ha1_9 e0_9 e1_9 e3_9 e4_9 e5_9 e6_9 e7_9 e8_9 e9_9 e10_9 e11_9 f10 f11 f12 f13 f14 f15 f16 f17
        obtain ⟨e0_29, e3_29, e4_29, e5_29, e6_29, e7_29, e8_29, e9_29, e10_29, e11_29⟩ := m_29
        have f30 := (show 0 ≤ I27 0 71 ∧ I27 0 71 ≤ 5 from (hI27 0 71).1)
        have f31 := (show 0 ≤ I27 0 72 ∧ I27 0 72 ≤ 1000 from (hI27 0 72).1)
        have f32 := (show 0 ≤ I27 0 73 ∧ I27 0 73 ≤ 1001 from (hI27 0 73).1)
        have f33 := (show 0 ≤ I27 0 69 ∧ I27 0 69 ≤ 1000 from (hI27 0 69).1)
        have f34 := (show (-1) ≤ I27 0 6 ∧ I27 0 6 ≤ 7 from (hI27 0 6).1)
        have f35 := (show 0 ≤ I27 0 119 ∧ I27 0 119 ≤ 6 from (hI27 0 119).1)
        have f36 := (show 0 ≤ I27 0 118 ∧ I27 0 118 ≤ 6 from (hI27 0 118).1)
        have f37 := (show 0 ≤ I27 0 120 ∧ I27 0 120 ≤ 3 from (hI27 0 120).1)
        have f38 := (show 0 ≤ I27 0 119 ∧ I27 0 119 ≤ 6 from (hI27 0 119).1)
        refine gv_run 5 true hD (pc' := 291) (lv' := [(0, .inr (.inr (some 0)))]) (st' := [.inl ((I27 0 119) + 1), .inr (.inr (some 0))]) (h' := gr_h I27 J28) (C := (((((True ∧ True) ∧ True) ∧ True) ∧ True) ∧ True)) rfl ⟨⟨⟨⟨⟨trivial, trivial⟩, trivial⟩, trivial⟩, trivial⟩, trivial⟩ ?_
        refine gv_run 1 true hD (pc' := 294) (lv' := [(0, .inr (.inr (some 0)))]) (st' := []) (h' := gz_up (gr_h I27 J28) 0 119 (.inl (((I27 0 119) + 1)))) (C := (True ∧ True)) rfl ⟨trivial, trivial⟩ ?_
        refine gr_st hI27 FI27 rfl rfl ⟨⟨by show 0 ≤ _; omega, by show _ ≤ 6; omega⟩, trivial⟩ (fun I39 hI39 FI39 q40 p40 => ?_)
        have t41 := p40 0 71 (by decide)
        have t42 := p40 0 72 (by decide)
        have t43 := p40 0 73 (by decide)
        have t44 := p40 0 69 (by decide)
        have t45 := p40 0 6 (by decide)
        have t46 := p40 0 118 (by decide)
        have t47 := p40 0 120 (by decide)
        have f48 := (show 0 ≤ I39 0 71 ∧ I39 0 71 ≤ 5 from (hI39 0 71).1)
        have f49 := (show 0 ≤ I39 0 72 ∧ I39 0 72 ≤ 1000 from (hI39 0 72).1)
        have f50 := (show 0 ≤ I39 0 73 ∧ I39 0 73 ≤ 1001 from (hI39 0 73).1)
        have f51 := (show 0 ≤ I39 0 69 ∧ I39 0 69 ≤ 1000 from (hI39 0 69).1)
        have f52 := (show (-1) ≤ I39 0 6 ∧ I39 0 6 ≤ 7 from (hI39 0 6).1)
        have f53 := (show 0 ≤ I39 0 119 ∧ I39 0 119 ≤ 6 from (hI39 0 119).1)
        have f54 := (show 0 ≤ I39 0 118 ∧ I39 0 118 ≤ 6 from (hI39 0 118).1)
        have f55 := (show 0 ≤ I39 0 120 ∧ I39 0 120 ≤ 3 from (hI39 0 120).1)
        refine gv_run 1 true hD (pc' := 295) (lv' := [(0, .inr (.inr (some 0)))]) (st' := [.inl 1]) (h' := gr_h I39 J28) (C := (True ∧ True)) rfl ⟨trivial, trivial⟩ ?_
        exact gv_zret hD rfl (by omega) ⟨I39, J28, rfl, hI39, FI39, FJ28, ⟨_, rfl, by omega, by omega, by omega, by omega, by omega, by omega, by omega, by omega, by omega, by omega, (gr_o_b (gr_R1_n e1_29 p40 (by omega) e2_29))⟩⟩
      have L78 : ∀ (I56 : gr_I) (J57 : gr_J) , gr_Inv I56 → gr_fr [71, 72, 73, 74, 75, 76, 77, 119, 120] [70, 71, 72, 73] I I56 → gr_fj [71, 72, 73, 74, 75, 76, 77, 119, 120] [70, 71, 72, 73] J J57 → ((0 ≤ a1 ∧ a1 ≤ 95) ∧ (I56 0 119 ≤ 5) ∧ (I56 0 71 = 5 ∨ I56 0 73 ≤ I56 0 69) ∧ (I56 0 72 ≤ I56 0 69) ∧ (I56 0 71 = 0 ∨ (I56 0 72 < I56 0 73 ∧ I56 0 72 < I56 0 69)) ∧ (I56 0 71 = 3 → 2 ≤ I56 0 73 - I56 0 72 ∧ I56 0 73 - I56 0 72 ≤ 14) ∧ (I56 0 72 ≤ I56 0 73) ∧ (I56 0 69 = I 0 69) ∧ (I 0 73 ≤ I56 0 73) ∧ (I 0 72 ≤ I56 0 72) ∧ (I56 0 6 = I 0 6)) → (gr_R1 a1 I56) → gv_X (gr_E ws0 tb 11 (yX13_said, cX13_said, 3, (some .boolean)) kX13_said) (gv_Q cX13_said (some .boolean) (gr_sh ++ ext) (fun r h' => (∃ (I' : gr_I) (J' : gr_J), h' = gr_h I' J' ∧ gr_Inv I' ∧ gr_fr [71, 72, 73, 74, 75, 76, 77, 119, 120] [70, 71, 72, 73] I I' ∧ gr_fj [71, 72, 73, 74, 75, 76, 77, 119, 120] [70, 71, 72, 73] J J' ∧ (∃ z : Int, r = some (.inl z) ∧ 0 ≤ z ∧ z ≤ 1 ∧ (I' 0 71 = 5 ∨ I' 0 73 ≤ I' 0 69) ∧ (I' 0 72 ≤ I' 0 69) ∧ (I' 0 71 = 0 ∨ (I' 0 72 < I' 0 73 ∧ I' 0 72 < I' 0 69)) ∧ (I' 0 71 = 3 → 2 ≤ I' 0 73 - I' 0 72 ∧ I' 0 73 - I' 0 72 ≤ 14) ∧ (I' 0 72 ≤ I' 0 73) ∧ (I' 0 69 = I 0 69) ∧ (I 0 73 ≤ I' 0 73) ∧ (I 0 72 ≤ I' 0 72) ∧ (gr_o (z = 0) (gr_R1 a1 I')))))) (78, [(0, .inr (.inr (some 0))), (1, .inl a1)], [], gr_sh ++ ext, gr_h I56 J57) := by
        intro I56 J57 hI56 FI56 FJ57 m_58 e1_58
        clear ha1_18 e0_18 e1_18 e3_18 e4_18 e5_18 e6_18 e7_18 e8_18 e9_18 e10_18 e11_18 f19 f20 f21 f22 f23 f24 f25 f26 ha1_9 e0_9 e1_9 e3_9 e4_9 e5_9 e6_9 e7_9 e8_9 e9_9 e10_9 e11_9 f10 f11 f12 f13 f14 f15 f16 f17
        obtain ⟨ha1_58, e0_58, e2_58, e3_58, e4_58, e5_58, e6_58, e7_58, e8_58, e9_58, e10_58⟩ := m_58
        have f59 := (show 0 ≤ I56 0 71 ∧ I56 0 71 ≤ 5 from (hI56 0 71).1)
        have f60 := (show 0 ≤ I56 0 72 ∧ I56 0 72 ≤ 1000 from (hI56 0 72).1)
        have f61 := (show 0 ≤ I56 0 73 ∧ I56 0 73 ≤ 1001 from (hI56 0 73).1)
        have f62 := (show 0 ≤ I56 0 69 ∧ I56 0 69 ≤ 1000 from (hI56 0 69).1)
        have f63 := (show (-1) ≤ I56 0 6 ∧ I56 0 6 ≤ 7 from (hI56 0 6).1)
        have f64 := (show 0 ≤ I56 0 119 ∧ I56 0 119 ≤ 6 from (hI56 0 119).1)
        have f65 := (show 0 ≤ I56 0 118 ∧ I56 0 118 ≤ 6 from (hI56 0 118).1)
        have f66 := (show 0 ≤ I56 0 120 ∧ I56 0 120 ≤ 3 from (hI56 0 120).1)
        have L101 : ∀ (I67 : gr_I) (J68 : gr_J) , gr_Inv I67 → gr_fr [71, 72, 73, 74, 75, 76, 77, 119, 120] [70, 71, 72, 73] I I67 → gr_fj [71, 72, 73, 74, 75, 76, 77, 119, 120] [70, 71, 72, 73] J J68 → ((I67 0 119 ≤ 5) ∧ (I67 0 71 = 5 ∨ I67 0 73 ≤ I67 0 69) ∧ (I67 0 72 ≤ I67 0 69) ∧ (I67 0 71 = 0 ∨ (I67 0 72 < I67 0 73 ∧ I67 0 72 < I67 0 69)) ∧ (I67 0 71 = 3 → 2 ≤ I67 0 73 - I67 0 72 ∧ I67 0 73 - I67 0 72 ≤ 14) ∧ (I67 0 72 ≤ I67 0 73) ∧ (I67 0 69 = I 0 69) ∧ (I 0 73 ≤ I67 0 73) ∧ (I 0 72 ≤ I67 0 72) ∧ (I67 0 6 = I 0 6)) → (gr_R1 a1 I67) → (gr_S3a I67) → gv_X (gr_E ws0 tb 11 (yX13_said, cX13_said, 3, (some .boolean)) kX13_said) (gv_Q cX13_said (some .boolean) (gr_sh ++ ext) (fun r h' => (∃ (I' : gr_I) (J' : gr_J), h' = gr_h I' J' ∧ gr_Inv I' ∧ gr_fr [71, 72, 73, 74, 75, 76, 77, 119, 120] [70, 71, 72, 73] I I' ∧ gr_fj [71, 72, 73, 74, 75, 76, 77, 119, 120] [70, 71, 72, 73] J J' ∧ (∃ z : Int, r = some (.inl z) ∧ 0 ≤ z ∧ z ≤ 1 ∧ (I' 0 71 = 5 ∨ I' 0 73 ≤ I' 0 69) ∧ (I' 0 72 ≤ I' 0 69) ∧ (I' 0 71 = 0 ∨ (I' 0 72 < I' 0 73 ∧ I' 0 72 < I' 0 69)) ∧ (I' 0 71 = 3 → 2 ≤ I' 0 73 - I' 0 72 ∧ I' 0 73 - I' 0 72 ≤ 14) ∧ (I' 0 72 ≤ I' 0 73) ∧ (I' 0 69 = I 0 69) ∧ (I 0 73 ≤ I' 0 73) ∧ (I 0 72 ≤ I' 0 72) ∧ (gr_o (z = 0) (gr_R1 a1 I')))))) (101, [(0, .inr (.inr (some 0)))], [], gr_sh ++ ext, gr_h I67 J68) := by
          intro I67 J68 hI67 FI67 FJ68 m_69 e1_69 e2_69
          clear ha1_58 e0_58 e2_58 e3_58 e4_58 e5_58 e6_58 e7_58 e8_58 e9_58 e10_58 f59 f60 f61 f62 f63 f64 f65 f66
          obtain ⟨e0_69, e3_69, e4_69, e5_69, e6_69, e7_69, e8_69, e9_69, e10_69, e11_69⟩ := m_69
          have f70 := (show 0 ≤ I67 0 71 ∧ I67 0 71 ≤ 5 from (hI67 0 71).1)
          have f71 := (show 0 ≤ I67 0 72 ∧ I67 0 72 ≤ 1000 from (hI67 0 72).1)
          have f72 := (show 0 ≤ I67 0 73 ∧ I67 0 73 ≤ 1001 from (hI67 0 73).1)
          have f73 := (show 0 ≤ I67 0 69 ∧ I67 0 69 ≤ 1000 from (hI67 0 69).1)
          have f74 := (show (-1) ≤ I67 0 6 ∧ I67 0 6 ≤ 7 from (hI67 0 6).1)
          have f75 := (show 0 ≤ I67 0 119 ∧ I67 0 119 ≤ 6 from (hI67 0 119).1)
          have f76 := (show 0 ≤ I67 0 118 ∧ I67 0 118 ≤ 6 from (hI67 0 118).1)
          have f77 := (show 0 ≤ I67 0 120 ∧ I67 0 120 ≤ 3 from (hI67 0 120).1)
          have f78 := (show 0 ≤ I67 0 119 ∧ I67 0 119 ≤ 6 from (hI67 0 119).1)
          have f79 := (show 0 ≤ I67 0 120 ∧ I67 0 120 ≤ 3 from (hI67 0 120).1)
          refine gv_run 6 true hD (pc' := 113) (lv' := [(0, .inr (.inr (some 0)))]) (st' := [.inl (I67 0 120), .inl (I67 0 119), .inr (.inr (some 72))]) (h' := gr_h I67 J68) (C := ((((((True ∧ True) ∧ True) ∧ True) ∧ True) ∧ True) ∧ True)) rfl ⟨⟨⟨⟨⟨⟨trivial, trivial⟩, trivial⟩, trivial⟩, trivial⟩, trivial⟩, trivial⟩ ?_
          refine gv_run 1 true hD (pc' := 114) (lv' := [(0, .inr (.inr (some 0)))]) (st' := []) (h' := gz_up (gr_h I67 J68) 72 (Int.toNat ((I67 0 119))) (.inl (I67 0 120))) (C := (True ∧ (0 ≤ (I67 0 119) ∧ (I67 0 119) < ((6 : Nat) : Int)))) rfl ⟨trivial, ⟨by omega, by omega⟩⟩ ?_
          refine gr_st hI67 FI67 rfl rfl ⟨⟨by show 0 ≤ _; omega, by show _ ≤ 3; omega⟩, trivial⟩ (fun I80 hI80 FI80 q81 p81 => ?_)
          have t82 := p81 0 71 (fun q => absurd q.1 (by decide))
          have t83 := p81 0 72 (fun q => absurd q.1 (by decide))
          have t84 := p81 0 73 (fun q => absurd q.1 (by decide))
          have t85 := p81 0 69 (fun q => absurd q.1 (by decide))
          have t86 := p81 0 6 (fun q => absurd q.1 (by decide))
          have t87 := p81 0 119 (fun q => absurd q.1 (by decide))
          have t88 := p81 0 118 (fun q => absurd q.1 (by decide))
          have t89 := p81 0 120 (fun q => absurd q.1 (by decide))
          have f90 := (show 0 ≤ I80 0 71 ∧ I80 0 71 ≤ 5 from (hI80 0 71).1)
          have f91 := (show 0 ≤ I80 0 72 ∧ I80 0 72 ≤ 1000 from (hI80 0 72).1)
          have f92 := (show 0 ≤ I80 0 73 ∧ I80 0 73 ≤ 1001 from (hI80 0 73).1)
          have f93 := (show 0 ≤ I80 0 69 ∧ I80 0 69 ≤ 1000 from (hI80 0 69).1)
          have f94 := (show (-1) ≤ I80 0 6 ∧ I80 0 6 ≤ 7 from (hI80 0 6).1)
          have f95 := (show 0 ≤ I80 0 119 ∧ I80 0 119 ≤ 6 from (hI80 0 119).1)
          have f96 := (show 0 ≤ I80 0 118 ∧ I80 0 118 ≤ 6 from (hI80 0 118).1)
          have f97 := (show 0 ≤ I80 0 120 ∧ I80 0 120 ≤ 3 from (hI80 0 120).1)
          refine gv_run 1 true hD (pc' := 115) (lv' := [(0, .inr (.inr (some 0)))]) (st' := [.inr (.inr (some 0))]) (h' := gr_h I80 J68) (C := (True ∧ True)) rfl ⟨trivial, trivial⟩ ?_
          obtain ⟨r98, h98, E98, P98⟩ := r_featureOf (ws0 := ws0) (tb := tb) hws htb ext I80 J68 hI80   (by omega) (by omega) (by omega) (by omega) (by omega) (by omega) (by omega)
          obtain ⟨I99, J100, rfl, hI99, g98, k98, ⟨z98, rfl, q98⟩⟩ := P98
          have FI99 := gr_frt FI80 g98 rfl rfl
          have FJ100 := gr_fjt FJ68 k98 rfl rfl
          have t101 := g98 0 69 rfl
          have t102 := g98 0 6 rfl
          have t103 := g98 0 119 rfl
          have t104 := g98 0 118 rfl
          have t105 := g98 0 120 rfl
          have f106 := (show 0 ≤ I99 0 71 ∧ I99 0 71 ≤ 5 from (hI99 0 71).1)
          have f107 := (show 0 ≤ I99 0 72 ∧ I99 0 72 ≤ 1000 from (hI99 0 72).1)
          have f108 := (show 0 ≤ I99 0 73 ∧ I99 0 73 ≤ 1001 from (hI99 0 73).1)
          have f109 := (show 0 ≤ I99 0 69 ∧ I99 0 69 ≤ 1000 from (hI99 0 69).1)
          have f110 := (show (-1) ≤ I99 0 6 ∧ I99 0 6 ≤ 7 from (hI99 0 6).1)
          have f111 := (show 0 ≤ I99 0 119 ∧ I99 0 119 ≤ 6 from (hI99 0 119).1)
          have f112 := (show 0 ≤ I99 0 118 ∧ I99 0 118 ≤ 6 from (hI99 0 118).1)
          have f113 := (show 0 ≤ I99 0 120 ∧ I99 0 120 ≤ 3 from (hI99 0 120).1)
          refine gv_callV hD rfl (As := []) (st := []) rfl (by decide) rfl rfl (gr_lV hws rfl) (Nat.le_of_ble_eq_true rfl) (gz_Ev_mono (d := 11) (by decide) E98) ?_
          show gv_X _ _ (118, [(0, .inr (.inr (some 0)))], [.inl z98], gr_sh ++ ext, gr_h I99 J100)
          refine gv_if_ne (t := 284) hD rfl rfl ⟨by omega, by omega⟩ (fun c114 => ?_) (fun c114 => ?_)
          · exact L284 I99 J100 hI99 FI99 FJ100 (by omega) (gr_R1_fr (gr_R1_fr e1_69 (fun k => p81 68 k (fun q => absurd q.1 (by decide))) (fun k => p81 74 k (fun q => absurd q.1 (by decide))) (fun k => p81 6 k (fun q => absurd q.1 (by decide))) (fun k => p81 70 k (fun q => absurd q.1 (by decide))) (fun k => p81 71 k (fun q => absurd q.1 (by decide))) (p81 0 118 (fun q => absurd q.1 (by decide))) (p81 0 119 (fun q => absurd q.1 (by decide)))) (fun k => g98 68 k rfl) (fun k => g98 74 k rfl) (fun k => g98 6 k rfl) (fun k => g98 70 k rfl) (fun k => g98 71 k rfl) (g98 0 118 rfl) (g98 0 119 rfl)) (Or.inr (gr_S3a_fr (gr_S3a_fr e2_69 (fun k => p81 71 k (fun q => absurd q.1 (by decide))) (p81 0 119 (fun q => absurd q.1 (by decide)))) (fun k => g98 71 k rfl) (g98 0 119 rfl)))
          · refine gv_run 1 true hD (pc' := 122) (lv' := [(0, .inr (.inr (some 0)))]) (st' := [.inl 0]) (h' := gr_h I99 J100) (C := (True ∧ True)) rfl ⟨trivial, trivial⟩ ?_
            exact gv_zret hD rfl (by omega) ⟨I99, J100, rfl, hI99, FI99, FJ100, ⟨_, rfl, by omega, by omega, by omega, by omega, by omega, by omega, by omega, by omega, by omega, by omega, (gr_o_a (by omega))⟩⟩
        have f115 := (show 0 ≤ I56 0 119 ∧ I56 0 119 ≤ 6 from (hI56 0 119).1)
        have f116 := (show 0 ≤ I56 0 120 ∧ I56 0 120 ≤ 3 from (hI56 0 120).1)
        refine gv_run 6 true hD (pc' := 90) (lv' := [(0, .inr (.inr (some 0))), (1, .inl a1)]) (st' := [.inl (I56 0 120), .inl (I56 0 119), .inr (.inr (some 71))]) (h' := gr_h I56 J57) (C := ((((((True ∧ True) ∧ True) ∧ True) ∧ True) ∧ True) ∧ True)) rfl ⟨⟨⟨⟨⟨⟨trivial, trivial⟩, trivial⟩, trivial⟩, trivial⟩, trivial⟩, trivial⟩ ?_
        refine gv_run 1 true hD (pc' := 91) (lv' := [(0, .inr (.inr (some 0))), (1, .inl a1)]) (st' := []) (h' := gz_up (gr_h I56 J57) 71 (Int.toNat ((I56 0 119))) (.inl (I56 0 120))) (C := (True ∧ (0 ≤ (I56 0 119) ∧ (I56 0 119) < ((6 : Nat) : Int)))) rfl ⟨trivial, ⟨by omega, by omega⟩⟩ ?_
        refine gr_st hI56 FI56 rfl rfl ⟨⟨by show 0 ≤ _; omega, by show _ ≤ 6; omega⟩, trivial⟩ (fun I117 hI117 FI117 q118 p118 => ?_)
        have t119 := p118 0 71 (fun q => absurd q.1 (by decide))
        have t120 := p118 0 72 (fun q => absurd q.1 (by decide))
        have t121 := p118 0 73 (fun q => absurd q.1 (by decide))
        have t122 := p118 0 69 (fun q => absurd q.1 (by decide))
        have t123 := p118 0 6 (fun q => absurd q.1 (by decide))
        have t124 := p118 0 119 (fun q => absurd q.1 (by decide))
        have t125 := p118 0 118 (fun q => absurd q.1 (by decide))
        have t126 := p118 0 120 (fun q => absurd q.1 (by decide))
        have f127 := (show 0 ≤ I117 0 71 ∧ I117 0 71 ≤ 5 from (hI117 0 71).1)
        have f128 := (show 0 ≤ I117 0 72 ∧ I117 0 72 ≤ 1000 from (hI117 0 72).1)
        have f129 := (show 0 ≤ I117 0 73 ∧ I117 0 73 ≤ 1001 from (hI117 0 73).1)
        have f130 := (show 0 ≤ I117 0 69 ∧ I117 0 69 ≤ 1000 from (hI117 0 69).1)
        have f131 := (show (-1) ≤ I117 0 6 ∧ I117 0 6 ≤ 7 from (hI117 0 6).1)
        have f132 := (show 0 ≤ I117 0 119 ∧ I117 0 119 ≤ 6 from (hI117 0 119).1)
        have f133 := (show 0 ≤ I117 0 118 ∧ I117 0 118 ≤ 6 from (hI117 0 118).1)
        have f134 := (show 0 ≤ I117 0 120 ∧ I117 0 120 ≤ 3 from (hI117 0 120).1)
        refine gv_run 2 true hD (pc' := 93) (lv' := [(0, .inr (.inr (some 0))), (1, .inl a1)]) (st' := [.inl a1, .inr (.inr (some 0))]) (h' := gr_h I117 J57) (C := ((True ∧ True) ∧ True)) rfl ⟨⟨trivial, trivial⟩, trivial⟩ ?_
        obtain ⟨r135, h135, E135, P135⟩ := r_argumentOf (ws0 := ws0) (tb := tb) hws htb ext I117 J57 hI117 a1 ⟨by omega, by omega⟩ (by omega) (by omega) (by omega) (by omega) (by omega)
        obtain ⟨I136, J137, rfl, hI136, g135, k135, ⟨z135, rfl, q135⟩⟩ := P135
        have FI136 := gr_frt FI117 g135 rfl rfl
        have FJ137 := gr_fjt FJ57 k135 rfl rfl
        have t138 := g135 0 69 rfl
        have t139 := g135 0 6 rfl
        have t140 := g135 0 119 rfl
        have t141 := g135 0 118 rfl
        have f142 := (show 0 ≤ I136 0 71 ∧ I136 0 71 ≤ 5 from (hI136 0 71).1)
        have f143 := (show 0 ≤ I136 0 72 ∧ I136 0 72 ≤ 1000 from (hI136 0 72).1)
        have f144 := (show 0 ≤ I136 0 73 ∧ I136 0 73 ≤ 1001 from (hI136 0 73).1)
        have f145 := (show 0 ≤ I136 0 69 ∧ I136 0 69 ≤ 1000 from (hI136 0 69).1)
        have f146 := (show (-1) ≤ I136 0 6 ∧ I136 0 6 ≤ 7 from (hI136 0 6).1)
        have f147 := (show 0 ≤ I136 0 119 ∧ I136 0 119 ≤ 6 from (hI136 0 119).1)
        have f148 := (show 0 ≤ I136 0 118 ∧ I136 0 118 ≤ 6 from (hI136 0 118).1)
        have f149 := (show 0 ≤ I136 0 120 ∧ I136 0 120 ≤ 3 from (hI136 0 120).1)
        refine gv_callV hD rfl (As := [.inl a1]) (st := []) rfl (by decide) rfl rfl (gr_lV hws rfl) (Nat.le_of_ble_eq_true rfl) (gz_Ev_mono (d := 11) (by decide) E135) ?_
        show gv_X _ _ (96, [(0, .inr (.inr (some 0))), (1, .inl a1)], [.inl z135], gr_sh ++ ext, gr_h I136 J137)
        refine gv_if_ne (t := 101) hD rfl rfl ⟨by omega, by omega⟩ (fun c150 => ?_) (fun c150 => ?_)
        · refine gv_pick [0] rfl ?_
          exact L101 I136 J137 hI136 FI136 FJ137 (by omega) (gr_R1_fr (gr_R1_s e1_58 (fun k => p118 68 k (fun q => absurd q.1 (by decide))) (fun k => p118 74 k (fun q => absurd q.1 (by decide))) (fun k => p118 6 k (fun q => absurd q.1 (by decide))) (fun k hk => p118 70 k (fun q => hk (q.2.trans (by omega)))) (fun k hk => p118 71 k (fun q => hk (q.2.trans (by omega)))) (p118 0 118 (fun q => absurd q.1 (by decide))) (p118 0 119 (fun q => absurd q.1 (by decide)))) (fun k => g135 68 k rfl) (fun k => g135 74 k rfl) (fun k => g135 6 k rfl) (fun k => g135 70 k rfl) (fun k => g135 71 k rfl) (g135 0 118 rfl) (g135 0 119 rfl)) (gr_S3a_fr (gr_S3a_st q118 (by omega) (by omega)) (fun k => g135 71 k rfl) (g135 0 119 rfl))
        · refine gv_run 1 true hD (pc' := 100) (lv' := [(0, .inr (.inr (some 0))), (1, .inl a1)]) (st' := [.inl 0]) (h' := gr_h I136 J137) (C := (True ∧ True)) rfl ⟨trivial, trivial⟩ ?_
          exact gv_zret hD rfl (by omega) ⟨I136, J137, rfl, hI136, FI136, FJ137, ⟨_, rfl, by omega, by omega, by omega, by omega, by omega, by omega, by omega, by omega, by omega, by omega, (gr_o_a (by omega))⟩⟩
      have L155 : ∀ (I151 : gr_I) (J152 : gr_J) , gr_Inv I151 → gr_fr [71, 72, 73, 74, 75, 76, 77, 119, 120] [70, 71, 72, 73] I I151 → gr_fj [71, 72, 73, 74, 75, 76, 77, 119, 120] [70, 71, 72, 73] J J152 → ((I151 0 119 ≤ 5) ∧ (I151 0 71 = 5 ∨ I151 0 73 ≤ I151 0 69) ∧ (I151 0 72 ≤ I151 0 69) ∧ (I151 0 71 = 0 ∨ (I151 0 72 < I151 0 73 ∧ I151 0 72 < I151 0 69)) ∧ (I151 0 71 = 3 → 2 ≤ I151 0 73 - I151 0 72 ∧ I151 0 73 - I151 0 72 ≤ 14) ∧ (I151 0 72 ≤ I151 0 73) ∧ (I151 0 69 = I 0 69) ∧ (I 0 73 ≤ I151 0 73) ∧ (I 0 72 ≤ I151 0 72) ∧ (I151 0 6 = I 0 6)) → (gr_R1 a1 I151) → gv_X (gr_E ws0 tb 11 (yX13_said, cX13_said, 3, (some .boolean)) kX13_said) (gv_Q cX13_said (some .boolean) (gr_sh ++ ext) (fun r h' => (∃ (I' : gr_I) (J' : gr_J), h' = gr_h I' J' ∧ gr_Inv I' ∧ gr_fr [71, 72, 73, 74, 75, 76, 77, 119, 120] [70, 71, 72, 73] I I' ∧ gr_fj [71, 72, 73, 74, 75, 76, 77, 119, 120] [70, 71, 72, 73] J J' ∧ (∃ z : Int, r = some (.inl z) ∧ 0 ≤ z ∧ z ≤ 1 ∧ (I' 0 71 = 5 ∨ I' 0 73 ≤ I' 0 69) ∧ (I' 0 72 ≤ I' 0 69) ∧ (I' 0 71 = 0 ∨ (I' 0 72 < I' 0 73 ∧ I' 0 72 < I' 0 69)) ∧ (I' 0 71 = 3 → 2 ≤ I' 0 73 - I' 0 72 ∧ I' 0 73 - I' 0 72 ≤ 14) ∧ (I' 0 72 ≤ I' 0 73) ∧ (I' 0 69 = I 0 69) ∧ (I 0 73 ≤ I' 0 73) ∧ (I 0 72 ≤ I' 0 72) ∧ (gr_o (z = 0) (gr_R1 a1 I')))))) (155, [(0, .inr (.inr (some 0)))], [], gr_sh ++ ext, gr_h I151 J152) := by
        intro I151 J152 hI151 FI151 FJ152 m_153 e1_153
        clear ha1_18 e0_18 e1_18 e3_18 e4_18 e5_18 e6_18 e7_18 e8_18 e9_18 e10_18 e11_18 f19 f20 f21 f22 f23 f24 f25 f26 ha1_9 e0_9 e1_9 e3_9 e4_9 e5_9 e6_9 e7_9 e8_9 e9_9 e10_9 e11_9 f10 f11 f12 f13 f14 f15 f16 f17
        obtain ⟨e0_153, e2_153, e3_153, e4_153, e5_153, e6_153, e7_153, e8_153, e9_153, e10_153⟩ := m_153
        have f154 := (show 0 ≤ I151 0 71 ∧ I151 0 71 ≤ 5 from (hI151 0 71).1)
        have f155 := (show 0 ≤ I151 0 72 ∧ I151 0 72 ≤ 1000 from (hI151 0 72).1)
        have f156 := (show 0 ≤ I151 0 73 ∧ I151 0 73 ≤ 1001 from (hI151 0 73).1)
        have f157 := (show 0 ≤ I151 0 69 ∧ I151 0 69 ≤ 1000 from (hI151 0 69).1)
        have f158 := (show (-1) ≤ I151 0 6 ∧ I151 0 6 ≤ 7 from (hI151 0 6).1)
        have f159 := (show 0 ≤ I151 0 119 ∧ I151 0 119 ≤ 6 from (hI151 0 119).1)
        have f160 := (show 0 ≤ I151 0 118 ∧ I151 0 118 ≤ 6 from (hI151 0 118).1)
        have f161 := (show 0 ≤ I151 0 120 ∧ I151 0 120 ≤ 3 from (hI151 0 120).1)
        have f162 := (show 0 ≤ I151 0 119 ∧ I151 0 119 ≤ 6 from (hI151 0 119).1)
        have f163 := (show 0 ≤ I151 0 120 ∧ I151 0 120 ≤ 3 from (hI151 0 120).1)
        refine gv_run 6 true hD (pc' := 167) (lv' := [(0, .inr (.inr (some 0)))]) (st' := [.inl (I151 0 120), .inl (I151 0 119), .inr (.inr (some 71))]) (h' := gr_h I151 J152) (C := ((((((True ∧ True) ∧ True) ∧ True) ∧ True) ∧ True) ∧ True)) rfl ⟨⟨⟨⟨⟨⟨trivial, trivial⟩, trivial⟩, trivial⟩, trivial⟩, trivial⟩, trivial⟩ ?_
        refine gv_run 1 true hD (pc' := 168) (lv' := [(0, .inr (.inr (some 0)))]) (st' := []) (h' := gz_up (gr_h I151 J152) 71 (Int.toNat ((I151 0 119))) (.inl (I151 0 120))) (C := (True ∧ (0 ≤ (I151 0 119) ∧ (I151 0 119) < ((6 : Nat) : Int)))) rfl ⟨trivial, ⟨by omega, by omega⟩⟩ ?_
        refine gr_st hI151 FI151 rfl rfl ⟨⟨by show 0 ≤ _; omega, by show _ ≤ 6; omega⟩, trivial⟩ (fun I164 hI164 FI164 q165 p165 => ?_)
        have t166 := p165 0 71 (fun q => absurd q.1 (by decide))
        have t167 := p165 0 72 (fun q => absurd q.1 (by decide))
        have t168 := p165 0 73 (fun q => absurd q.1 (by decide))
        have t169 := p165 0 69 (fun q => absurd q.1 (by decide))
        have t170 := p165 0 6 (fun q => absurd q.1 (by decide))
        have t171 := p165 0 119 (fun q => absurd q.1 (by decide))
        have t172 := p165 0 118 (fun q => absurd q.1 (by decide))
        have t173 := p165 0 120 (fun q => absurd q.1 (by decide))
        have f174 := (show 0 ≤ I164 0 71 ∧ I164 0 71 ≤ 5 from (hI164 0 71).1)
        have f175 := (show 0 ≤ I164 0 72 ∧ I164 0 72 ≤ 1000 from (hI164 0 72).1)
        have f176 := (show 0 ≤ I164 0 73 ∧ I164 0 73 ≤ 1001 from (hI164 0 73).1)
        have f177 := (show 0 ≤ I164 0 69 ∧ I164 0 69 ≤ 1000 from (hI164 0 69).1)
        have f178 := (show (-1) ≤ I164 0 6 ∧ I164 0 6 ≤ 7 from (hI164 0 6).1)
        have f179 := (show 0 ≤ I164 0 119 ∧ I164 0 119 ≤ 6 from (hI164 0 119).1)
        have f180 := (show 0 ≤ I164 0 118 ∧ I164 0 118 ≤ 6 from (hI164 0 118).1)
        have f181 := (show 0 ≤ I164 0 120 ∧ I164 0 120 ≤ 3 from (hI164 0 120).1)
        refine gv_run 1 true hD (pc' := 169) (lv' := [(0, .inr (.inr (some 0)))]) (st' := [.inr (.inr (some 0))]) (h' := gr_h I164 J152) (C := (True ∧ True)) rfl ⟨trivial, trivial⟩ ?_
        obtain ⟨r182, h182, E182, P182⟩ := r_featureOf (ws0 := ws0) (tb := tb) hws htb ext I164 J152 hI164   (by omega) (by omega) (by omega) (by omega) (by omega) (by omega) (by omega)
        obtain ⟨I183, J184, rfl, hI183, g182, k182, ⟨z182, rfl, q182⟩⟩ := P182
        have FI183 := gr_frt FI164 g182 rfl rfl
        have FJ184 := gr_fjt FJ152 k182 rfl rfl
        have t185 := g182 0 69 rfl
        have t186 := g182 0 6 rfl
        have t187 := g182 0 119 rfl
        have t188 := g182 0 118 rfl
        have t189 := g182 0 120 rfl
        have f190 := (show 0 ≤ I183 0 71 ∧ I183 0 71 ≤ 5 from (hI183 0 71).1)
        have f191 := (show 0 ≤ I183 0 72 ∧ I183 0 72 ≤ 1000 from (hI183 0 72).1)
        have f192 := (show 0 ≤ I183 0 73 ∧ I183 0 73 ≤ 1001 from (hI183 0 73).1)
        have f193 := (show 0 ≤ I183 0 69 ∧ I183 0 69 ≤ 1000 from (hI183 0 69).1)
        have f194 := (show (-1) ≤ I183 0 6 ∧ I183 0 6 ≤ 7 from (hI183 0 6).1)
        have f195 := (show 0 ≤ I183 0 119 ∧ I183 0 119 ≤ 6 from (hI183 0 119).1)
        have f196 := (show 0 ≤ I183 0 118 ∧ I183 0 118 ≤ 6 from (hI183 0 118).1)
        have f197 := (show 0 ≤ I183 0 120 ∧ I183 0 120 ≤ 3 from (hI183 0 120).1)
        refine gv_callV hD rfl (As := []) (st := []) rfl (by decide) rfl rfl (gr_lV hws rfl) (Nat.le_of_ble_eq_true rfl) (gz_Ev_mono (d := 11) (by decide) E182) ?_
        show gv_X _ _ (172, [(0, .inr (.inr (some 0)))], [.inl z182], gr_sh ++ ext, gr_h I183 J184)
        refine gv_if_ne (t := 284) hD rfl rfl ⟨by omega, by omega⟩ (fun c198 => ?_) (fun c198 => ?_)
        · exact L284 I183 J184 hI183 FI183 FJ184 (by omega) (gr_R1_fr (gr_R1_s e1_153 (fun k => p165 68 k (fun q => absurd q.1 (by decide))) (fun k => p165 74 k (fun q => absurd q.1 (by decide))) (fun k => p165 6 k (fun q => absurd q.1 (by decide))) (fun k hk => p165 70 k (fun q => hk (q.2.trans (by omega)))) (fun k hk => p165 71 k (fun q => hk (q.2.trans (by omega)))) (p165 0 118 (fun q => absurd q.1 (by decide))) (p165 0 119 (fun q => absurd q.1 (by decide)))) (fun k => g182 68 k rfl) (fun k => g182 74 k rfl) (fun k => g182 6 k rfl) (fun k => g182 70 k rfl) (fun k => g182 71 k rfl) (g182 0 118 rfl) (g182 0 119 rfl)) (Or.inr (gr_S3a_fr (gr_S3a_st q165 (by omega) (by omega)) (fun k => g182 71 k rfl) (g182 0 119 rfl)))
        · refine gv_run 1 true hD (pc' := 176) (lv' := [(0, .inr (.inr (some 0)))]) (st' := [.inl 0]) (h' := gr_h I183 J184) (C := (True ∧ True)) rfl ⟨trivial, trivial⟩ ?_
          exact gv_zret hD rfl (by omega) ⟨I183, J184, rfl, hI183, FI183, FJ184, ⟨_, rfl, by omega, by omega, by omega, by omega, by omega, by omega, by omega, by omega, by omega, by omega, (gr_o_a (by omega))⟩⟩
      have L186 : ∀ (I199 : gr_I) (J200 : gr_J) , gr_Inv I199 → gr_fr [71, 72, 73, 74, 75, 76, 77, 119, 120] [70, 71, 72, 73] I I199 → gr_fj [71, 72, 73, 74, 75, 76, 77, 119, 120] [70, 71, 72, 73] J J200 → ((I199 0 119 ≤ 5) ∧ (I199 0 71 = 1) ∧ (I199 0 71 = 5 ∨ I199 0 73 ≤ I199 0 69) ∧ (I199 0 72 ≤ I199 0 69) ∧ (I199 0 71 = 0 ∨ (I199 0 72 < I199 0 73 ∧ I199 0 72 < I199 0 69)) ∧ (I199 0 71 = 3 → 2 ≤ I199 0 73 - I199 0 72 ∧ I199 0 73 - I199 0 72 ≤ 14) ∧ (I199 0 72 ≤ I199 0 73) ∧ (I199 0 69 = I 0 69) ∧ (I 0 73 ≤ I199 0 73) ∧ (I 0 72 ≤ I199 0 72) ∧ (I199 0 6 = I 0 6)) → (gr_R1 a1 I199) → gv_X (gr_E ws0 tb 11 (yX13_said, cX13_said, 3, (some .boolean)) kX13_said) (gv_Q cX13_said (some .boolean) (gr_sh ++ ext) (fun r h' => (∃ (I' : gr_I) (J' : gr_J), h' = gr_h I' J' ∧ gr_Inv I' ∧ gr_fr [71, 72, 73, 74, 75, 76, 77, 119, 120] [70, 71, 72, 73] I I' ∧ gr_fj [71, 72, 73, 74, 75, 76, 77, 119, 120] [70, 71, 72, 73] J J' ∧ (∃ z : Int, r = some (.inl z) ∧ 0 ≤ z ∧ z ≤ 1 ∧ (I' 0 71 = 5 ∨ I' 0 73 ≤ I' 0 69) ∧ (I' 0 72 ≤ I' 0 69) ∧ (I' 0 71 = 0 ∨ (I' 0 72 < I' 0 73 ∧ I' 0 72 < I' 0 69)) ∧ (I' 0 71 = 3 → 2 ≤ I' 0 73 - I' 0 72 ∧ I' 0 73 - I' 0 72 ≤ 14) ∧ (I' 0 72 ≤ I' 0 73) ∧ (I' 0 69 = I 0 69) ∧ (I 0 73 ≤ I' 0 73) ∧ (I 0 72 ≤ I' 0 72) ∧ (gr_o (z = 0) (gr_R1 a1 I')))))) (186, [(0, .inr (.inr (some 0)))], [], gr_sh ++ ext, gr_h I199 J200) := by
        intro I199 J200 hI199 FI199 FJ200 m_201 e2_201
        clear ha1_18 e0_18 e1_18 e3_18 e4_18 e5_18 e6_18 e7_18 e8_18 e9_18 e10_18 e11_18 f19 f20 f21 f22 f23 f24 f25 f26 ha1_9 e0_9 e1_9 e3_9 e4_9 e5_9 e6_9 e7_9 e8_9 e9_9 e10_9 e11_9 f10 f11 f12 f13 f14 f15 f16 f17
        obtain ⟨e0_201, e1_201, e3_201, e4_201, e5_201, e6_201, e7_201, e8_201, e9_201, e10_201, e11_201⟩ := m_201
        have f202 := (show 0 ≤ I199 0 71 ∧ I199 0 71 ≤ 5 from (hI199 0 71).1)
        have f203 := (show 0 ≤ I199 0 72 ∧ I199 0 72 ≤ 1000 from (hI199 0 72).1)
        have f204 := (show 0 ≤ I199 0 73 ∧ I199 0 73 ≤ 1001 from (hI199 0 73).1)
        have f205 := (show 0 ≤ I199 0 69 ∧ I199 0 69 ≤ 1000 from (hI199 0 69).1)
        have f206 := (show (-1) ≤ I199 0 6 ∧ I199 0 6 ≤ 7 from (hI199 0 6).1)
        have f207 := (show 0 ≤ I199 0 119 ∧ I199 0 119 ≤ 6 from (hI199 0 119).1)
        have f208 := (show 0 ≤ I199 0 118 ∧ I199 0 118 ≤ 6 from (hI199 0 118).1)
        have f209 := (show 0 ≤ I199 0 120 ∧ I199 0 120 ≤ 3 from (hI199 0 120).1)
        have f210 := (show (-1) ≤ I199 0 6 ∧ I199 0 6 ≤ 7 from (hI199 0 6).1)
        refine gv_run 7 true hD (pc' := 198) (lv' := [(0, .inr (.inr (some 0)))]) (st' := [.inr (.inr (some 0)), .inl (48 * (I199 0 6)), .inr (.inr (some 21))]) (h' := gr_h I199 J200) (C := (((((((True ∧ True) ∧ True) ∧ True) ∧ True) ∧ True) ∧ True) ∧ True)) rfl ⟨⟨⟨⟨⟨⟨⟨trivial, trivial⟩, trivial⟩, trivial⟩, trivial⟩, trivial⟩, trivial⟩, trivial⟩ ?_
        have f211 := (show (-1) ≤ I199 0 6 ∧ I199 0 6 ≤ 7 from (hI199 0 6).1)
        have f212 := (show 0 ≤ I199 14 (Int.toNat ((I199 0 6))) ∧ I199 14 (Int.toNat ((I199 0 6))) ≤ 48 from (hI199 14 (Int.toNat ((I199 0 6)))).1)
        refine gv_run 4 true hD (pc' := 206) (lv' := [(0, .inr (.inr (some 0)))]) (st' := [.inl (I199 14 (Int.toNat ((I199 0 6)))), .inl (48 * (I199 0 6)), .inr (.inr (some 21))]) (h' := gr_h I199 J200) (C := ((((True ∧ True) ∧ True) ∧ True) ∧ (0 ≤ (I199 0 6) ∧ (I199 0 6) < ((8 : Nat) : Int)))) rfl ⟨⟨⟨⟨trivial, trivial⟩, trivial⟩, trivial⟩, ⟨by omega, by omega⟩⟩ ?_
        refine gv_run 2 true hD (pc' := 210) (lv' := [(0, .inr (.inr (some 0)))]) (st' := [.inr (.inl (J200 0 75)), .inl (I199 14 (Int.toNat ((I199 0 6)))), .inl (48 * (I199 0 6)), .inr (.inr (some 21))]) (h' := gr_h I199 J200) (C := ((True ∧ True) ∧ True)) rfl ⟨⟨trivial, trivial⟩, trivial⟩ ?_
        obtain ⟨r213, h213, E213, P213⟩ := r_find_21 (ws0 := ws0) (tb := tb) hws htb ext I199 J200 hI199 ((48 * (I199 0 6))) ((I199 14 (Int.toNat ((I199 0 6))))) (J200 0 75) ⟨by omega, by omega⟩ ⟨by omega, by omega⟩ (by omega)
        obtain ⟨rfl, ⟨z213, rfl, q213⟩⟩ := P213
        refine gv_callS hD rfl (As := [.inr (.inr (some 21)), .inl (48 * (I199 0 6)), .inl (I199 14 (Int.toNat ((I199 0 6)))), .inr (.inl (J200 0 75))]) (st := []) rfl (gr_lS hws rfl) (Nat.le_of_ble_eq_true rfl) (gz_Ev_mono (d := 1) (by decide) E213) ?_
        show gv_X _ _ (213, [(0, .inr (.inr (some 0)))], [.inl z213], gr_sh ++ ext, gr_h I199 J200)
        refine gv_run 2 true hD (pc' := 215) (lv' := [(2, .inl z213), (0, .inr (.inr (some 0)))]) (st' := [.inl z213]) (h' := gr_h I199 J200) (C := ((True ∧ True) ∧ True)) rfl ⟨⟨trivial, trivial⟩, trivial⟩ ?_
        refine gv_if_ge (t := 224) hD rfl rfl ⟨by omega, by omega⟩ (fun c214 => ?_) (fun c214 => ?_)
        · have f215 := (show 0 ≤ I199 0 119 ∧ I199 0 119 ≤ 6 from (hI199 0 119).1)
          refine gv_run 5 true hD (pc' := 233) (lv' := [(2, .inl z213), (0, .inr (.inr (some 0)))]) (st' := [.inl 2, .inl (I199 0 119), .inr (.inr (some 70))]) (h' := gr_h I199 J200) (C := (((((True ∧ True) ∧ True) ∧ True) ∧ True) ∧ True)) rfl ⟨⟨⟨⟨⟨trivial, trivial⟩, trivial⟩, trivial⟩, trivial⟩, trivial⟩ ?_
          refine gv_run 1 true hD (pc' := 234) (lv' := [(2, .inl z213), (0, .inr (.inr (some 0)))]) (st' := []) (h' := gz_up (gr_h I199 J200) 70 (Int.toNat ((I199 0 119))) (.inl 2)) (C := (True ∧ (0 ≤ (I199 0 119) ∧ (I199 0 119) < ((6 : Nat) : Int)))) rfl ⟨trivial, ⟨by omega, by omega⟩⟩ ?_
          refine gr_st hI199 FI199 rfl rfl ⟨⟨by show 0 ≤ _; omega, by show _ ≤ 2; omega⟩, trivial⟩ (fun I216 hI216 FI216 q217 p217 => ?_)
          have t218 := p217 0 71 (fun q => absurd q.1 (by decide))
          have t219 := p217 0 72 (fun q => absurd q.1 (by decide))
          have t220 := p217 0 73 (fun q => absurd q.1 (by decide))
          have t221 := p217 0 69 (fun q => absurd q.1 (by decide))
          have t222 := p217 0 6 (fun q => absurd q.1 (by decide))
          have t223 := p217 0 119 (fun q => absurd q.1 (by decide))
          have t224 := p217 0 118 (fun q => absurd q.1 (by decide))
          have t225 := p217 0 120 (fun q => absurd q.1 (by decide))
          have f226 := (show 0 ≤ I216 0 71 ∧ I216 0 71 ≤ 5 from (hI216 0 71).1)
          have f227 := (show 0 ≤ I216 0 72 ∧ I216 0 72 ≤ 1000 from (hI216 0 72).1)
          have f228 := (show 0 ≤ I216 0 73 ∧ I216 0 73 ≤ 1001 from (hI216 0 73).1)
          have f229 := (show 0 ≤ I216 0 69 ∧ I216 0 69 ≤ 1000 from (hI216 0 69).1)
          have f230 := (show (-1) ≤ I216 0 6 ∧ I216 0 6 ≤ 7 from (hI216 0 6).1)
          have f231 := (show 0 ≤ I216 0 119 ∧ I216 0 119 ≤ 6 from (hI216 0 119).1)
          have f232 := (show 0 ≤ I216 0 118 ∧ I216 0 118 ≤ 6 from (hI216 0 118).1)
          have f233 := (show 0 ≤ I216 0 120 ∧ I216 0 120 ≤ 3 from (hI216 0 120).1)
          have f234 := (show 0 ≤ I216 0 119 ∧ I216 0 119 ≤ 6 from (hI216 0 119).1)
          refine gv_run 7 true hD (pc' := 248) (lv' := [(2, .inl z213), (0, .inr (.inr (some 0)))]) (st' := [.inl 48, .inr (.inr (some 24)), .inl (I216 0 119), .inr (.inr (some 73))]) (h' := gr_h I216 J200) (C := (((((((True ∧ True) ∧ True) ∧ True) ∧ True) ∧ True) ∧ True) ∧ True)) rfl ⟨⟨⟨⟨⟨⟨⟨trivial, trivial⟩, trivial⟩, trivial⟩, trivial⟩, trivial⟩, trivial⟩, trivial⟩ ?_
          have f235 := (show (-1) ≤ I216 0 6 ∧ I216 0 6 ≤ 7 from (hI216 0 6).1)
          have f236 := (show 0 ≤ I216 24 (Int.toNat (((48 * (I216 0 6)) + z213))) ∧ I216 24 (Int.toNat (((48 * (I216 0 6)) + z213))) ≤ 7 from (hI216 24 (Int.toNat (((48 * (I216 0 6)) + z213)))).1)
          refine gv_run 6 true hD (pc' := 256) (lv' := [(2, .inl z213), (0, .inr (.inr (some 0)))]) (st' := [.inl (I216 24 (Int.toNat (((48 * (I216 0 6)) + z213)))), .inl (I216 0 119), .inr (.inr (some 73))]) (h' := gr_h I216 J200) (C := ((((((True ∧ True) ∧ True) ∧ True) ∧ True) ∧ True) ∧ (0 ≤ (((48 * (I216 0 6)) + z213)) ∧ (((48 * (I216 0 6)) + z213)) < ((384 : Nat) : Int)))) rfl ⟨⟨⟨⟨⟨⟨trivial, trivial⟩, trivial⟩, trivial⟩, trivial⟩, trivial⟩, ⟨by omega, by omega⟩⟩ ?_
          refine gv_run 1 true hD (pc' := 257) (lv' := [(2, .inl z213), (0, .inr (.inr (some 0)))]) (st' := []) (h' := gz_up (gr_h I216 J200) 73 (Int.toNat ((I216 0 119))) (.inl ((I216 24 (Int.toNat (((48 * (I216 0 6)) + z213))))))) (C := (True ∧ (0 ≤ (I216 0 119) ∧ (I216 0 119) < ((6 : Nat) : Int)))) rfl ⟨trivial, ⟨by omega, by omega⟩⟩ ?_
          refine gr_st hI216 FI216 rfl rfl ⟨⟨by show 0 ≤ _; omega, by show _ ≤ 7; omega⟩, trivial⟩ (fun I237 hI237 FI237 q238 p238 => ?_)
          have t239 := p238 0 71 (fun q => absurd q.1 (by decide))
          have t240 := p238 0 72 (fun q => absurd q.1 (by decide))
          have t241 := p238 0 73 (fun q => absurd q.1 (by decide))
          have t242 := p238 0 69 (fun q => absurd q.1 (by decide))
          have t243 := p238 0 6 (fun q => absurd q.1 (by decide))
          have t244 := p238 0 119 (fun q => absurd q.1 (by decide))
          have t245 := p238 0 118 (fun q => absurd q.1 (by decide))
          have t246 := p238 0 120 (fun q => absurd q.1 (by decide))
          have f247 := (show 0 ≤ I237 0 71 ∧ I237 0 71 ≤ 5 from (hI237 0 71).1)
          have f248 := (show 0 ≤ I237 0 72 ∧ I237 0 72 ≤ 1000 from (hI237 0 72).1)
          have f249 := (show 0 ≤ I237 0 73 ∧ I237 0 73 ≤ 1001 from (hI237 0 73).1)
          have f250 := (show 0 ≤ I237 0 69 ∧ I237 0 69 ≤ 1000 from (hI237 0 69).1)
          have f251 := (show (-1) ≤ I237 0 6 ∧ I237 0 6 ≤ 7 from (hI237 0 6).1)
          have f252 := (show 0 ≤ I237 0 119 ∧ I237 0 119 ≤ 6 from (hI237 0 119).1)
          have f253 := (show 0 ≤ I237 0 118 ∧ I237 0 118 ≤ 6 from (hI237 0 118).1)
          have f254 := (show 0 ≤ I237 0 120 ∧ I237 0 120 ≤ 3 from (hI237 0 120).1)
          have f255 := (show 0 ≤ I237 0 119 ∧ I237 0 119 ≤ 6 from (hI237 0 119).1)
          refine gv_run 7 true hD (pc' := 271) (lv' := [(2, .inl z213), (0, .inr (.inr (some 0)))]) (st' := [.inl 48, .inr (.inr (some 25)), .inl (I237 0 119), .inr (.inr (some 71))]) (h' := gr_h I237 J200) (C := (((((((True ∧ True) ∧ True) ∧ True) ∧ True) ∧ True) ∧ True) ∧ True)) rfl ⟨⟨⟨⟨⟨⟨⟨trivial, trivial⟩, trivial⟩, trivial⟩, trivial⟩, trivial⟩, trivial⟩, trivial⟩ ?_
          have f256 := (show (-1) ≤ I237 0 6 ∧ I237 0 6 ≤ 7 from (hI237 0 6).1)
          have f257 := (show 0 ≤ I237 25 (Int.toNat (((48 * (I237 0 6)) + z213))) ∧ I237 25 (Int.toNat (((48 * (I237 0 6)) + z213))) ≤ 6 from (hI237 25 (Int.toNat (((48 * (I237 0 6)) + z213)))).1)
          refine gv_run 6 true hD (pc' := 279) (lv' := [(2, .inl z213), (0, .inr (.inr (some 0)))]) (st' := [.inl (I237 25 (Int.toNat (((48 * (I237 0 6)) + z213)))), .inl (I237 0 119), .inr (.inr (some 71))]) (h' := gr_h I237 J200) (C := ((((((True ∧ True) ∧ True) ∧ True) ∧ True) ∧ True) ∧ (0 ≤ (((48 * (I237 0 6)) + z213)) ∧ (((48 * (I237 0 6)) + z213)) < ((384 : Nat) : Int)))) rfl ⟨⟨⟨⟨⟨⟨trivial, trivial⟩, trivial⟩, trivial⟩, trivial⟩, trivial⟩, ⟨by omega, by omega⟩⟩ ?_
          refine gv_run 1 true hD (pc' := 280) (lv' := [(2, .inl z213), (0, .inr (.inr (some 0)))]) (st' := []) (h' := gz_up (gr_h I237 J200) 71 (Int.toNat ((I237 0 119))) (.inl ((I237 25 (Int.toNat (((48 * (I237 0 6)) + z213))))))) (C := (True ∧ (0 ≤ (I237 0 119) ∧ (I237 0 119) < ((6 : Nat) : Int)))) rfl ⟨trivial, ⟨by omega, by omega⟩⟩ ?_
          refine gr_st hI237 FI237 rfl rfl ⟨⟨by show 0 ≤ _; omega, by show _ ≤ 6; omega⟩, trivial⟩ (fun I258 hI258 FI258 q259 p259 => ?_)
          have t260 := p259 0 71 (fun q => absurd q.1 (by decide))
          have t261 := p259 0 72 (fun q => absurd q.1 (by decide))
          have t262 := p259 0 73 (fun q => absurd q.1 (by decide))
          have t263 := p259 0 69 (fun q => absurd q.1 (by decide))
          have t264 := p259 0 6 (fun q => absurd q.1 (by decide))
          have t265 := p259 0 119 (fun q => absurd q.1 (by decide))
          have t266 := p259 0 118 (fun q => absurd q.1 (by decide))
          have t267 := p259 0 120 (fun q => absurd q.1 (by decide))
          have f268 := (show 0 ≤ I258 0 71 ∧ I258 0 71 ≤ 5 from (hI258 0 71).1)
          have f269 := (show 0 ≤ I258 0 72 ∧ I258 0 72 ≤ 1000 from (hI258 0 72).1)
          have f270 := (show 0 ≤ I258 0 73 ∧ I258 0 73 ≤ 1001 from (hI258 0 73).1)
          have f271 := (show 0 ≤ I258 0 69 ∧ I258 0 69 ≤ 1000 from (hI258 0 69).1)
          have f272 := (show (-1) ≤ I258 0 6 ∧ I258 0 6 ≤ 7 from (hI258 0 6).1)
          have f273 := (show 0 ≤ I258 0 119 ∧ I258 0 119 ≤ 6 from (hI258 0 119).1)
          have f274 := (show 0 ≤ I258 0 118 ∧ I258 0 118 ≤ 6 from (hI258 0 118).1)
          have f275 := (show 0 ≤ I258 0 120 ∧ I258 0 120 ≤ 3 from (hI258 0 120).1)
          refine gv_run 1 true hD (pc' := 281) (lv' := [(2, .inl z213), (0, .inr (.inr (some 0)))]) (st' := [.inr (.inr (some 0))]) (h' := gr_h I258 J200) (C := (True ∧ True)) rfl ⟨trivial, trivial⟩ ?_
          obtain ⟨r276, h276, E276, P276⟩ := r_next (ws0 := ws0) (tb := tb) hws htb ext I258 J200 hI258   (by omega)
          obtain ⟨I277, J278, rfl, hI277, g276, k276, ⟨rfl, q276⟩⟩ := P276
          have FI277 := gr_frt FI258 g276 rfl rfl
          have FJ278 := gr_fjt FJ200 k276 rfl rfl
          have t279 := g276 0 69 rfl
          have t280 := g276 0 6 rfl
          have t281 := g276 0 119 rfl
          have t282 := g276 0 118 rfl
          have t283 := g276 0 120 rfl
          have f284 := (show 0 ≤ I277 0 71 ∧ I277 0 71 ≤ 5 from (hI277 0 71).1)
          have f285 := (show 0 ≤ I277 0 72 ∧ I277 0 72 ≤ 1000 from (hI277 0 72).1)
          have f286 := (show 0 ≤ I277 0 73 ∧ I277 0 73 ≤ 1001 from (hI277 0 73).1)
          have f287 := (show 0 ≤ I277 0 69 ∧ I277 0 69 ≤ 1000 from (hI277 0 69).1)
          have f288 := (show (-1) ≤ I277 0 6 ∧ I277 0 6 ≤ 7 from (hI277 0 6).1)
          have f289 := (show 0 ≤ I277 0 119 ∧ I277 0 119 ≤ 6 from (hI277 0 119).1)
          have f290 := (show 0 ≤ I277 0 118 ∧ I277 0 118 ≤ 6 from (hI277 0 118).1)
          have f291 := (show 0 ≤ I277 0 120 ∧ I277 0 120 ≤ 3 from (hI277 0 120).1)
          refine gv_callV hD rfl (As := []) (st := []) rfl (by decide) rfl rfl (gr_lV hws rfl) (Nat.le_of_ble_eq_true rfl) (gz_Ev_mono (d := 10) (by decide) E276) ?_
          show gv_X _ _ (284, [(2, .inl z213), (0, .inr (.inr (some 0)))], [], gr_sh ++ ext, gr_h I277 J278)
          refine gv_pick [1] rfl ?_
          exact L284 I277 J278 hI277 FI277 FJ278 (by omega) (gr_R1_fr (gr_R1_s (gr_R1_fr (gr_R1_s e2_201 (fun k => p217 68 k (fun q => absurd q.1 (by decide))) (fun k => p217 74 k (fun q => absurd q.1 (by decide))) (fun k => p217 6 k (fun q => absurd q.1 (by decide))) (fun k hk => p217 70 k (fun q => hk (q.2.trans (by omega)))) (fun k hk => p217 71 k (fun q => hk (q.2.trans (by omega)))) (p217 0 118 (fun q => absurd q.1 (by decide))) (p217 0 119 (fun q => absurd q.1 (by decide)))) (fun k => p238 68 k (fun q => absurd q.1 (by decide))) (fun k => p238 74 k (fun q => absurd q.1 (by decide))) (fun k => p238 6 k (fun q => absurd q.1 (by decide))) (fun k => p238 70 k (fun q => absurd q.1 (by decide))) (fun k => p238 71 k (fun q => absurd q.1 (by decide))) (p238 0 118 (fun q => absurd q.1 (by decide))) (p238 0 119 (fun q => absurd q.1 (by decide)))) (fun k => p259 68 k (fun q => absurd q.1 (by decide))) (fun k => p259 74 k (fun q => absurd q.1 (by decide))) (fun k => p259 6 k (fun q => absurd q.1 (by decide))) (fun k hk => p259 70 k (fun q => hk (q.2.trans (by omega)))) (fun k hk => p259 71 k (fun q => hk (q.2.trans (by omega)))) (p259 0 118 (fun q => absurd q.1 (by decide))) (p259 0 119 (fun q => absurd q.1 (by decide)))) (fun k => g276 68 k rfl) (fun k => g276 74 k rfl) (fun k => g276 6 k rfl) (fun k => g276 70 k rfl) (fun k => g276 71 k rfl) (g276 0 118 rfl) (g276 0 119 rfl)) (gr_S3_h (k := (Int.toNat ((I199 0 119)))) (z := 0) q217 (by rw [g276 70 _ rfl, p259 70 _ (fun q => absurd q.1 (by decide)), p238 70 _ (fun q => absurd q.1 (by decide))]) (by omega))
        · refine gv_run 2 true hD (pc' := 220) (lv' := [(2, .inl z213), (0, .inr (.inr (some 0)))]) (st' := [.inl 5, .inr (.inr (some 0))]) (h' := gr_h I199 J200) (C := ((True ∧ True) ∧ True)) rfl ⟨⟨trivial, trivial⟩, trivial⟩ ?_
          obtain ⟨r292, h292, E292, P292⟩ := r_no_ (ws0 := ws0) (tb := tb) hws htb ext I199 J200 hI199 5 ⟨by omega, by omega⟩ 
          obtain ⟨I293, J294, rfl, hI293, g292, k292, ⟨z292, rfl, q292⟩⟩ := P292
          have FI293 := gr_frt FI199 g292 rfl rfl
          have FJ294 := gr_fjt FJ200 k292 rfl rfl
          have t295 := g292 0 71 rfl
          have t296 := g292 0 72 rfl
          have t297 := g292 0 73 rfl
          have t298 := g292 0 69 rfl
          have t299 := g292 0 6 rfl
          have t300 := g292 0 119 rfl
          have t301 := g292 0 118 rfl
          have t302 := g292 0 120 rfl
          have f303 := (show 0 ≤ I293 0 71 ∧ I293 0 71 ≤ 5 from (hI293 0 71).1)
          have f304 := (show 0 ≤ I293 0 72 ∧ I293 0 72 ≤ 1000 from (hI293 0 72).1)
          have f305 := (show 0 ≤ I293 0 73 ∧ I293 0 73 ≤ 1001 from (hI293 0 73).1)
          have f306 := (show 0 ≤ I293 0 69 ∧ I293 0 69 ≤ 1000 from (hI293 0 69).1)
          have f307 := (show (-1) ≤ I293 0 6 ∧ I293 0 6 ≤ 7 from (hI293 0 6).1)
          have f308 := (show 0 ≤ I293 0 119 ∧ I293 0 119 ≤ 6 from (hI293 0 119).1)
          have f309 := (show 0 ≤ I293 0 118 ∧ I293 0 118 ≤ 6 from (hI293 0 118).1)
          have f310 := (show 0 ≤ I293 0 120 ∧ I293 0 120 ≤ 3 from (hI293 0 120).1)
          refine gv_callV hD rfl (As := [.inl 5]) (st := []) rfl (by decide) rfl rfl (gr_lV hws rfl) (Nat.le_of_ble_eq_true rfl) (gz_Ev_mono (d := 2) (by decide) E292) ?_
          show gv_X _ _ (223, [(2, .inl z213), (0, .inr (.inr (some 0)))], [.inl z292], gr_sh ++ ext, gr_h I293 J294)
          exact gv_zret hD rfl (by omega) ⟨I293, J294, rfl, hI293, FI293, FJ294, ⟨_, rfl, by omega, by omega, by omega, by omega, by omega, by omega, by omega, by omega, by omega, by omega, (gr_o_a (by omega))⟩⟩
      refine gv_run 3 true hD (pc' := 48) (lv' := [(0, .inr (.inr (some 0))), (1, .inl a1)]) (st' := [.inr (.inl (J 0 95)), .inr (.inr (some 0))]) (h' := gr_h I J) (C := (((True ∧ True) ∧ True) ∧ True)) rfl ⟨⟨⟨trivial, trivial⟩, trivial⟩, trivial⟩ ?_
      obtain ⟨r311, h311, E311, P311⟩ := r_is (ws0 := ws0) (tb := tb) hws htb ext I J hI (J 0 95)  
      obtain ⟨rfl, ⟨z311, rfl, q311⟩⟩ := P311
      refine gv_callV hD rfl (As := [.inr (.inl (J 0 95))]) (st := []) rfl (by decide) rfl rfl (gr_lV hws rfl) (Nat.le_of_ble_eq_true rfl) (gz_Ev_mono (d := 1) (by decide) E311) ?_
      show gv_X _ _ (51, [(0, .inr (.inr (some 0))), (1, .inl a1)], [.inl z311], gr_sh ++ ext, gr_h I J)
      refine gv_if_eq (t := 123) hD rfl rfl ⟨by omega, by omega⟩ (fun c312 => ?_) (fun c312 => ?_)
      · refine gv_run 1 true hD (pc' := 124) (lv' := [(0, .inr (.inr (some 0))), (1, .inl a1)]) (st' := [.inr (.inr (some 0))]) (h' := gr_h I J) (C := (True ∧ True)) rfl ⟨trivial, trivial⟩ ?_
        obtain ⟨r313, h313, E313, P313⟩ := r_next (ws0 := ws0) (tb := tb) hws htb ext I J hI   (by omega)
        obtain ⟨I314, J315, rfl, hI314, g313, k313, ⟨rfl, q313⟩⟩ := P313
        have FI314 := gr_frt FI g313 rfl rfl
        have FJ315 := gr_fjt FJ k313 rfl rfl
        have t316 := g313 0 69 rfl
        have t317 := g313 0 6 rfl
        have t318 := g313 0 119 rfl
        have t319 := g313 0 118 rfl
        have t320 := g313 0 120 rfl
        have f321 := (show 0 ≤ I314 0 71 ∧ I314 0 71 ≤ 5 from (hI314 0 71).1)
        have f322 := (show 0 ≤ I314 0 72 ∧ I314 0 72 ≤ 1000 from (hI314 0 72).1)
        have f323 := (show 0 ≤ I314 0 73 ∧ I314 0 73 ≤ 1001 from (hI314 0 73).1)
        have f324 := (show 0 ≤ I314 0 69 ∧ I314 0 69 ≤ 1000 from (hI314 0 69).1)
        have f325 := (show (-1) ≤ I314 0 6 ∧ I314 0 6 ≤ 7 from (hI314 0 6).1)
        have f326 := (show 0 ≤ I314 0 119 ∧ I314 0 119 ≤ 6 from (hI314 0 119).1)
        have f327 := (show 0 ≤ I314 0 118 ∧ I314 0 118 ≤ 6 from (hI314 0 118).1)
        have f328 := (show 0 ≤ I314 0 120 ∧ I314 0 120 ≤ 3 from (hI314 0 120).1)
        refine gv_callV hD rfl (As := []) (st := []) rfl (by decide) rfl rfl (gr_lV hws rfl) (Nat.le_of_ble_eq_true rfl) (gz_Ev_mono (d := 10) (by decide) E313) ?_
        show gv_X _ _ (127, [(0, .inr (.inr (some 0))), (1, .inl a1)], [], gr_sh ++ ext, gr_h I314 J315)
        have f329 := (show 0 ≤ I314 0 71 ∧ I314 0 71 ≤ 5 from (hI314 0 71).1)
        refine gv_run 3 true hD (pc' := 132) (lv' := [(0, .inr (.inr (some 0))), (1, .inl a1)]) (st' := [.inl 2, .inl (I314 0 71)]) (h' := gr_h I314 J315) (C := (((True ∧ True) ∧ True) ∧ True)) rfl ⟨⟨⟨trivial, trivial⟩, trivial⟩, trivial⟩ ?_
        refine gv_icmp_ne (t := 177) hD rfl rfl ⟨⟨by omega, by omega⟩, ⟨by omega, by omega⟩⟩ (fun c330 => ?_) (fun c330 => ?_)
        · refine gv_run 1 true hD (pc' := 178) (lv' := [(0, .inr (.inr (some 0))), (1, .inl a1)]) (st' := [.inr (.inr (some 0))]) (h' := gr_h I314 J315) (C := (True ∧ True)) rfl ⟨trivial, trivial⟩ ?_
          obtain ⟨r331, h331, E331, P331⟩ := r_name (ws0 := ws0) (tb := tb) hws htb ext I314 J315 hI314   
          obtain ⟨I332, J333, rfl, hI332, g331, k331, ⟨z331, rfl, q331⟩⟩ := P331
          have FI332 := gr_frt FI314 g331 rfl rfl
          have FJ333 := gr_fjt FJ315 k331 rfl rfl
          have t334 := g331 0 71 rfl
          have t335 := g331 0 72 rfl
          have t336 := g331 0 73 rfl
          have t337 := g331 0 69 rfl
          have t338 := g331 0 6 rfl
          have t339 := g331 0 119 rfl
          have t340 := g331 0 118 rfl
          have t341 := g331 0 120 rfl
          have f342 := (show 0 ≤ I332 0 71 ∧ I332 0 71 ≤ 5 from (hI332 0 71).1)
          have f343 := (show 0 ≤ I332 0 72 ∧ I332 0 72 ≤ 1000 from (hI332 0 72).1)
          have f344 := (show 0 ≤ I332 0 73 ∧ I332 0 73 ≤ 1001 from (hI332 0 73).1)
          have f345 := (show 0 ≤ I332 0 69 ∧ I332 0 69 ≤ 1000 from (hI332 0 69).1)
          have f346 := (show (-1) ≤ I332 0 6 ∧ I332 0 6 ≤ 7 from (hI332 0 6).1)
          have f347 := (show 0 ≤ I332 0 119 ∧ I332 0 119 ≤ 6 from (hI332 0 119).1)
          have f348 := (show 0 ≤ I332 0 118 ∧ I332 0 118 ≤ 6 from (hI332 0 118).1)
          have f349 := (show 0 ≤ I332 0 120 ∧ I332 0 120 ≤ 3 from (hI332 0 120).1)
          refine gv_callV hD rfl (As := []) (st := []) rfl (by decide) rfl rfl (gr_lV hws rfl) (Nat.le_of_ble_eq_true rfl) (gz_Ev_mono (d := 3) (by decide) E331) ?_
          show gv_X _ _ (181, [(0, .inr (.inr (some 0))), (1, .inl a1)], [.inl z331], gr_sh ++ ext, gr_h I332 J333)
          refine gv_if_ne (t := 186) hD rfl rfl ⟨by omega, by omega⟩ (fun c350 => ?_) (fun c350 => ?_)
          · refine gv_pick [0] rfl ?_
            exact L186 I332 J333 hI332 FI332 FJ333 (by omega) (gr_R1_fr (gr_R1_fr e2_18 (fun k => g313 68 k rfl) (fun k => g313 74 k rfl) (fun k => g313 6 k rfl) (fun k => g313 70 k rfl) (fun k => g313 71 k rfl) (g313 0 118 rfl) (g313 0 119 rfl)) (fun k => g331 68 k rfl) (fun k => g331 74 k rfl) (fun k => g331 6 k rfl) (fun k => g331 70 k rfl) (fun k => g331 71 k rfl) (g331 0 118 rfl) (g331 0 119 rfl))
          · refine gv_run 1 true hD (pc' := 185) (lv' := [(0, .inr (.inr (some 0))), (1, .inl a1)]) (st' := [.inl 0]) (h' := gr_h I332 J333) (C := (True ∧ True)) rfl ⟨trivial, trivial⟩ ?_
            exact gv_zret hD rfl (by omega) ⟨I332, J333, rfl, hI332, FI332, FJ333, ⟨_, rfl, by omega, by omega, by omega, by omega, by omega, by omega, by omega, by omega, by omega, by omega, (gr_o_a (by omega))⟩⟩
        · have f351 := (show 0 ≤ I314 0 119 ∧ I314 0 119 ≤ 6 from (hI314 0 119).1)
          refine gv_run 5 true hD (pc' := 144) (lv' := [(0, .inr (.inr (some 0))), (1, .inl a1)]) (st' := [.inl 1, .inl (I314 0 119), .inr (.inr (some 70))]) (h' := gr_h I314 J315) (C := (((((True ∧ True) ∧ True) ∧ True) ∧ True) ∧ True)) rfl ⟨⟨⟨⟨⟨trivial, trivial⟩, trivial⟩, trivial⟩, trivial⟩, trivial⟩ ?_
          refine gv_run 1 true hD (pc' := 145) (lv' := [(0, .inr (.inr (some 0))), (1, .inl a1)]) (st' := []) (h' := gz_up (gr_h I314 J315) 70 (Int.toNat ((I314 0 119))) (.inl 1)) (C := (True ∧ (0 ≤ (I314 0 119) ∧ (I314 0 119) < ((6 : Nat) : Int)))) rfl ⟨trivial, ⟨by omega, by omega⟩⟩ ?_
          refine gr_st hI314 FI314 rfl rfl ⟨⟨by show 0 ≤ _; omega, by show _ ≤ 2; omega⟩, trivial⟩ (fun I352 hI352 FI352 q353 p353 => ?_)
          have t354 := p353 0 71 (fun q => absurd q.1 (by decide))
          have t355 := p353 0 72 (fun q => absurd q.1 (by decide))
          have t356 := p353 0 73 (fun q => absurd q.1 (by decide))
          have t357 := p353 0 69 (fun q => absurd q.1 (by decide))
          have t358 := p353 0 6 (fun q => absurd q.1 (by decide))
          have t359 := p353 0 119 (fun q => absurd q.1 (by decide))
          have t360 := p353 0 118 (fun q => absurd q.1 (by decide))
          have t361 := p353 0 120 (fun q => absurd q.1 (by decide))
          have f362 := (show 0 ≤ I352 0 71 ∧ I352 0 71 ≤ 5 from (hI352 0 71).1)
          have f363 := (show 0 ≤ I352 0 72 ∧ I352 0 72 ≤ 1000 from (hI352 0 72).1)
          have f364 := (show 0 ≤ I352 0 73 ∧ I352 0 73 ≤ 1001 from (hI352 0 73).1)
          have f365 := (show 0 ≤ I352 0 69 ∧ I352 0 69 ≤ 1000 from (hI352 0 69).1)
          have f366 := (show (-1) ≤ I352 0 6 ∧ I352 0 6 ≤ 7 from (hI352 0 6).1)
          have f367 := (show 0 ≤ I352 0 119 ∧ I352 0 119 ≤ 6 from (hI352 0 119).1)
          have f368 := (show 0 ≤ I352 0 118 ∧ I352 0 118 ≤ 6 from (hI352 0 118).1)
          have f369 := (show 0 ≤ I352 0 120 ∧ I352 0 120 ≤ 3 from (hI352 0 120).1)
          refine gv_run 2 true hD (pc' := 147) (lv' := [(0, .inr (.inr (some 0))), (1, .inl a1)]) (st' := [.inl a1, .inr (.inr (some 0))]) (h' := gr_h I352 J315) (C := ((True ∧ True) ∧ True)) rfl ⟨⟨trivial, trivial⟩, trivial⟩ ?_
          obtain ⟨r370, h370, E370, P370⟩ := r_argumentOf (ws0 := ws0) (tb := tb) hws htb ext I352 J315 hI352 a1 ⟨by omega, by omega⟩ (by omega) (by omega) (by omega) (by omega) (by omega)
          obtain ⟨I371, J372, rfl, hI371, g370, k370, ⟨z370, rfl, q370⟩⟩ := P370
          have FI371 := gr_frt FI352 g370 rfl rfl
          have FJ372 := gr_fjt FJ315 k370 rfl rfl
          have t373 := g370 0 69 rfl
          have t374 := g370 0 6 rfl
          have t375 := g370 0 119 rfl
          have t376 := g370 0 118 rfl
          have f377 := (show 0 ≤ I371 0 71 ∧ I371 0 71 ≤ 5 from (hI371 0 71).1)
          have f378 := (show 0 ≤ I371 0 72 ∧ I371 0 72 ≤ 1000 from (hI371 0 72).1)
          have f379 := (show 0 ≤ I371 0 73 ∧ I371 0 73 ≤ 1001 from (hI371 0 73).1)
          have f380 := (show 0 ≤ I371 0 69 ∧ I371 0 69 ≤ 1000 from (hI371 0 69).1)
          have f381 := (show (-1) ≤ I371 0 6 ∧ I371 0 6 ≤ 7 from (hI371 0 6).1)
          have f382 := (show 0 ≤ I371 0 119 ∧ I371 0 119 ≤ 6 from (hI371 0 119).1)
          have f383 := (show 0 ≤ I371 0 118 ∧ I371 0 118 ≤ 6 from (hI371 0 118).1)
          have f384 := (show 0 ≤ I371 0 120 ∧ I371 0 120 ≤ 3 from (hI371 0 120).1)
          refine gv_callV hD rfl (As := [.inl a1]) (st := []) rfl (by decide) rfl rfl (gr_lV hws rfl) (Nat.le_of_ble_eq_true rfl) (gz_Ev_mono (d := 11) (by decide) E370) ?_
          show gv_X _ _ (150, [(0, .inr (.inr (some 0))), (1, .inl a1)], [.inl z370], gr_sh ++ ext, gr_h I371 J372)
          refine gv_if_ne (t := 155) hD rfl rfl ⟨by omega, by omega⟩ (fun c385 => ?_) (fun c385 => ?_)
          · refine gv_pick [0] rfl ?_
            exact L155 I371 J372 hI371 FI371 FJ372 (by omega) (gr_R1_fr (gr_R1_s (gr_R1_fr e2_18 (fun k => g313 68 k rfl) (fun k => g313 74 k rfl) (fun k => g313 6 k rfl) (fun k => g313 70 k rfl) (fun k => g313 71 k rfl) (g313 0 118 rfl) (g313 0 119 rfl)) (fun k => p353 68 k (fun q => absurd q.1 (by decide))) (fun k => p353 74 k (fun q => absurd q.1 (by decide))) (fun k => p353 6 k (fun q => absurd q.1 (by decide))) (fun k hk => p353 70 k (fun q => hk (q.2.trans (by omega)))) (fun k hk => p353 71 k (fun q => hk (q.2.trans (by omega)))) (p353 0 118 (fun q => absurd q.1 (by decide))) (p353 0 119 (fun q => absurd q.1 (by decide)))) (fun k => g370 68 k rfl) (fun k => g370 74 k rfl) (fun k => g370 6 k rfl) (fun k => g370 70 k rfl) (fun k => g370 71 k rfl) (g370 0 118 rfl) (g370 0 119 rfl))
          · refine gv_run 1 true hD (pc' := 154) (lv' := [(0, .inr (.inr (some 0))), (1, .inl a1)]) (st' := [.inl 0]) (h' := gr_h I371 J372) (C := (True ∧ True)) rfl ⟨trivial, trivial⟩ ?_
            exact gv_zret hD rfl (by omega) ⟨I371, J372, rfl, hI371, FI371, FJ372, ⟨_, rfl, by omega, by omega, by omega, by omega, by omega, by omega, by omega, by omega, by omega, by omega, (gr_o_a (by omega))⟩⟩
      · refine gv_run 1 true hD (pc' := 55) (lv' := [(0, .inr (.inr (some 0))), (1, .inl a1)]) (st' := [.inr (.inr (some 0))]) (h' := gr_h I J) (C := (True ∧ True)) rfl ⟨trivial, trivial⟩ ?_
        obtain ⟨r386, h386, E386, P386⟩ := r_next (ws0 := ws0) (tb := tb) hws htb ext I J hI   (by omega)
        obtain ⟨I387, J388, rfl, hI387, g386, k386, ⟨rfl, q386⟩⟩ := P386
        have FI387 := gr_frt FI g386 rfl rfl
        have FJ388 := gr_fjt FJ k386 rfl rfl
        have t389 := g386 0 69 rfl
        have t390 := g386 0 6 rfl
        have t391 := g386 0 119 rfl
        have t392 := g386 0 118 rfl
        have t393 := g386 0 120 rfl
        have f394 := (show 0 ≤ I387 0 71 ∧ I387 0 71 ≤ 5 from (hI387 0 71).1)
        have f395 := (show 0 ≤ I387 0 72 ∧ I387 0 72 ≤ 1000 from (hI387 0 72).1)
        have f396 := (show 0 ≤ I387 0 73 ∧ I387 0 73 ≤ 1001 from (hI387 0 73).1)
        have f397 := (show 0 ≤ I387 0 69 ∧ I387 0 69 ≤ 1000 from (hI387 0 69).1)
        have f398 := (show (-1) ≤ I387 0 6 ∧ I387 0 6 ≤ 7 from (hI387 0 6).1)
        have f399 := (show 0 ≤ I387 0 119 ∧ I387 0 119 ≤ 6 from (hI387 0 119).1)
        have f400 := (show 0 ≤ I387 0 118 ∧ I387 0 118 ≤ 6 from (hI387 0 118).1)
        have f401 := (show 0 ≤ I387 0 120 ∧ I387 0 120 ≤ 3 from (hI387 0 120).1)
        refine gv_callV hD rfl (As := []) (st := []) rfl (by decide) rfl rfl (gr_lV hws rfl) (Nat.le_of_ble_eq_true rfl) (gz_Ev_mono (d := 10) (by decide) E386) ?_
        show gv_X _ _ (58, [(0, .inr (.inr (some 0))), (1, .inl a1)], [], gr_sh ++ ext, gr_h I387 J388)
        have f402 := (show 0 ≤ I387 0 119 ∧ I387 0 119 ≤ 6 from (hI387 0 119).1)
        refine gv_run 5 true hD (pc' := 67) (lv' := [(0, .inr (.inr (some 0))), (1, .inl a1)]) (st' := [.inl 0, .inl (I387 0 119), .inr (.inr (some 70))]) (h' := gr_h I387 J388) (C := (((((True ∧ True) ∧ True) ∧ True) ∧ True) ∧ True)) rfl ⟨⟨⟨⟨⟨trivial, trivial⟩, trivial⟩, trivial⟩, trivial⟩, trivial⟩ ?_
        refine gv_run 1 true hD (pc' := 68) (lv' := [(0, .inr (.inr (some 0))), (1, .inl a1)]) (st' := []) (h' := gz_up (gr_h I387 J388) 70 (Int.toNat ((I387 0 119))) (.inl 0)) (C := (True ∧ (0 ≤ (I387 0 119) ∧ (I387 0 119) < ((6 : Nat) : Int)))) rfl ⟨trivial, ⟨by omega, by omega⟩⟩ ?_
        refine gr_st hI387 FI387 rfl rfl ⟨⟨by show 0 ≤ _; omega, by show _ ≤ 2; omega⟩, trivial⟩ (fun I403 hI403 FI403 q404 p404 => ?_)
        have t405 := p404 0 71 (fun q => absurd q.1 (by decide))
        have t406 := p404 0 72 (fun q => absurd q.1 (by decide))
        have t407 := p404 0 73 (fun q => absurd q.1 (by decide))
        have t408 := p404 0 69 (fun q => absurd q.1 (by decide))
        have t409 := p404 0 6 (fun q => absurd q.1 (by decide))
        have t410 := p404 0 119 (fun q => absurd q.1 (by decide))
        have t411 := p404 0 118 (fun q => absurd q.1 (by decide))
        have t412 := p404 0 120 (fun q => absurd q.1 (by decide))
        have f413 := (show 0 ≤ I403 0 71 ∧ I403 0 71 ≤ 5 from (hI403 0 71).1)
        have f414 := (show 0 ≤ I403 0 72 ∧ I403 0 72 ≤ 1000 from (hI403 0 72).1)
        have f415 := (show 0 ≤ I403 0 73 ∧ I403 0 73 ≤ 1001 from (hI403 0 73).1)
        have f416 := (show 0 ≤ I403 0 69 ∧ I403 0 69 ≤ 1000 from (hI403 0 69).1)
        have f417 := (show (-1) ≤ I403 0 6 ∧ I403 0 6 ≤ 7 from (hI403 0 6).1)
        have f418 := (show 0 ≤ I403 0 119 ∧ I403 0 119 ≤ 6 from (hI403 0 119).1)
        have f419 := (show 0 ≤ I403 0 118 ∧ I403 0 118 ≤ 6 from (hI403 0 118).1)
        have f420 := (show 0 ≤ I403 0 120 ∧ I403 0 120 ≤ 3 from (hI403 0 120).1)
        refine gv_run 2 true hD (pc' := 70) (lv' := [(0, .inr (.inr (some 0))), (1, .inl a1)]) (st' := [.inl a1, .inr (.inr (some 0))]) (h' := gr_h I403 J388) (C := ((True ∧ True) ∧ True)) rfl ⟨⟨trivial, trivial⟩, trivial⟩ ?_
        obtain ⟨r421, h421, E421, P421⟩ := r_argumentOf (ws0 := ws0) (tb := tb) hws htb ext I403 J388 hI403 a1 ⟨by omega, by omega⟩ (by omega) (by omega) (by omega) (by omega) (by omega)
        obtain ⟨I422, J423, rfl, hI422, g421, k421, ⟨z421, rfl, q421⟩⟩ := P421
        have FI422 := gr_frt FI403 g421 rfl rfl
        have FJ423 := gr_fjt FJ388 k421 rfl rfl
        have t424 := g421 0 69 rfl
        have t425 := g421 0 6 rfl
        have t426 := g421 0 119 rfl
        have t427 := g421 0 118 rfl
        have f428 := (show 0 ≤ I422 0 71 ∧ I422 0 71 ≤ 5 from (hI422 0 71).1)
        have f429 := (show 0 ≤ I422 0 72 ∧ I422 0 72 ≤ 1000 from (hI422 0 72).1)
        have f430 := (show 0 ≤ I422 0 73 ∧ I422 0 73 ≤ 1001 from (hI422 0 73).1)
        have f431 := (show 0 ≤ I422 0 69 ∧ I422 0 69 ≤ 1000 from (hI422 0 69).1)
        have f432 := (show (-1) ≤ I422 0 6 ∧ I422 0 6 ≤ 7 from (hI422 0 6).1)
        have f433 := (show 0 ≤ I422 0 119 ∧ I422 0 119 ≤ 6 from (hI422 0 119).1)
        have f434 := (show 0 ≤ I422 0 118 ∧ I422 0 118 ≤ 6 from (hI422 0 118).1)
        have f435 := (show 0 ≤ I422 0 120 ∧ I422 0 120 ≤ 3 from (hI422 0 120).1)
        refine gv_callV hD rfl (As := [.inl a1]) (st := []) rfl (by decide) rfl rfl (gr_lV hws rfl) (Nat.le_of_ble_eq_true rfl) (gz_Ev_mono (d := 11) (by decide) E421) ?_
        show gv_X _ _ (73, [(0, .inr (.inr (some 0))), (1, .inl a1)], [.inl z421], gr_sh ++ ext, gr_h I422 J423)
        refine gv_if_ne (t := 78) hD rfl rfl ⟨by omega, by omega⟩ (fun c436 => ?_) (fun c436 => ?_)
        · exact L78 I422 J423 hI422 FI422 FJ423 (by omega) (gr_R1_fr (gr_R1_s (gr_R1_fr e2_18 (fun k => g386 68 k rfl) (fun k => g386 74 k rfl) (fun k => g386 6 k rfl) (fun k => g386 70 k rfl) (fun k => g386 71 k rfl) (g386 0 118 rfl) (g386 0 119 rfl)) (fun k => p404 68 k (fun q => absurd q.1 (by decide))) (fun k => p404 74 k (fun q => absurd q.1 (by decide))) (fun k => p404 6 k (fun q => absurd q.1 (by decide))) (fun k hk => p404 70 k (fun q => hk (q.2.trans (by omega)))) (fun k hk => p404 71 k (fun q => hk (q.2.trans (by omega)))) (p404 0 118 (fun q => absurd q.1 (by decide))) (p404 0 119 (fun q => absurd q.1 (by decide)))) (fun k => g421 68 k rfl) (fun k => g421 74 k rfl) (fun k => g421 6 k rfl) (fun k => g421 70 k rfl) (fun k => g421 71 k rfl) (g421 0 118 rfl) (g421 0 119 rfl))
        · refine gv_run 1 true hD (pc' := 77) (lv' := [(0, .inr (.inr (some 0))), (1, .inl a1)]) (st' := [.inl 0]) (h' := gr_h I422 J423) (C := (True ∧ True)) rfl ⟨trivial, trivial⟩ ?_
          exact gv_zret hD rfl (by omega) ⟨I422, J423, rfl, hI422, FI422, FJ423, ⟨_, rfl, by omega, by omega, by omega, by omega, by omega, by omega, by omega, by omega, by omega, by omega, (gr_o_a (by omega))⟩⟩
    have f437 := (show 0 ≤ I 0 119 ∧ I 0 119 ≤ 6 from (hI 0 119).1)
    refine gv_run 3 true hD (pc' := 34) (lv' := [(0, .inr (.inr (some 0))), (1, .inl a1)]) (st' := [.inl 6, .inl (I 0 119)]) (h' := gr_h I J) (C := (((True ∧ True) ∧ True) ∧ True)) rfl ⟨⟨⟨trivial, trivial⟩, trivial⟩, trivial⟩ ?_
    refine gv_icmp_ne (t := 43) hD rfl rfl ⟨⟨by omega, by omega⟩, ⟨by omega, by omega⟩⟩ (fun c438 => ?_) (fun c438 => ?_)
    · exact L43 (by omega) e2_9
    · refine gv_run 2 true hD (pc' := 39) (lv' := [(0, .inr (.inr (some 0))), (1, .inl a1)]) (st' := [.inl 5, .inr (.inr (some 0))]) (h' := gr_h I J) (C := ((True ∧ True) ∧ True)) rfl ⟨⟨trivial, trivial⟩, trivial⟩ ?_
      obtain ⟨r439, h439, E439, P439⟩ := r_no_ (ws0 := ws0) (tb := tb) hws htb ext I J hI 5 ⟨by omega, by omega⟩ 
      obtain ⟨I440, J441, rfl, hI440, g439, k439, ⟨z439, rfl, q439⟩⟩ := P439
      have FI440 := gr_frt FI g439 rfl rfl
      have FJ441 := gr_fjt FJ k439 rfl rfl
      have t442 := g439 0 71 rfl
      have t443 := g439 0 72 rfl
      have t444 := g439 0 73 rfl
      have t445 := g439 0 69 rfl
      have t446 := g439 0 6 rfl
      have t447 := g439 0 119 rfl
      have t448 := g439 0 118 rfl
      have t449 := g439 0 120 rfl
      have f450 := (show 0 ≤ I440 0 71 ∧ I440 0 71 ≤ 5 from (hI440 0 71).1)
      have f451 := (show 0 ≤ I440 0 72 ∧ I440 0 72 ≤ 1000 from (hI440 0 72).1)
      have f452 := (show 0 ≤ I440 0 73 ∧ I440 0 73 ≤ 1001 from (hI440 0 73).1)
      have f453 := (show 0 ≤ I440 0 69 ∧ I440 0 69 ≤ 1000 from (hI440 0 69).1)
      have f454 := (show (-1) ≤ I440 0 6 ∧ I440 0 6 ≤ 7 from (hI440 0 6).1)
      have f455 := (show 0 ≤ I440 0 119 ∧ I440 0 119 ≤ 6 from (hI440 0 119).1)
      have f456 := (show 0 ≤ I440 0 118 ∧ I440 0 118 ≤ 6 from (hI440 0 118).1)
      have f457 := (show 0 ≤ I440 0 120 ∧ I440 0 120 ≤ 3 from (hI440 0 120).1)
      refine gv_callV hD rfl (As := [.inl 5]) (st := []) rfl (by decide) rfl rfl (gr_lV hws rfl) (Nat.le_of_ble_eq_true rfl) (gz_Ev_mono (d := 2) (by decide) E439) ?_
      show gv_X _ _ (42, [(0, .inr (.inr (some 0))), (1, .inl a1)], [.inl z439], gr_sh ++ ext, gr_h I440 J441)
      exact gv_zret hD rfl (by omega) ⟨I440, J441, rfl, hI440, FI440, FJ441, ⟨_, rfl, by omega, by omega, by omega, by omega, by omega, by omega, by omega, by omega, by omega, by omega, (gr_o_a (by omega))⟩⟩
  refine gv_run 3 true hD (pc' := 5) (lv' := [(0, .inr (.inr (some 0))), (1, .inl a1)]) (st' := [.inr (.inl (J 0 95)), .inr (.inr (some 0))]) (h' := gr_h I J) (C := (((True ∧ True) ∧ True) ∧ True)) rfl ⟨⟨⟨trivial, trivial⟩, trivial⟩, trivial⟩ ?_
  obtain ⟨r458, h458, E458, P458⟩ := r_is (ws0 := ws0) (tb := tb) hws htb ext I J hI (J 0 95)  
  obtain ⟨rfl, ⟨z458, rfl, q458⟩⟩ := P458
  refine gv_callV hD rfl (As := [.inr (.inl (J 0 95))]) (st := []) rfl (by decide) rfl rfl (gr_lV hws rfl) (Nat.le_of_ble_eq_true rfl) (gz_Ev_mono (d := 1) (by decide) E458) ?_
  show gv_X _ _ (8, [(0, .inr (.inr (some 0))), (1, .inl a1)], [.inl z458], gr_sh ++ ext, gr_h I J)
  refine gv_if_ne (t := 28) hD rfl rfl ⟨by omega, by omega⟩ (fun c459 => ?_) (fun c459 => ?_)
  · exact L28 (by omega) x6
  · refine gv_run 3 true hD (pc' := 16) (lv' := [(0, .inr (.inr (some 0))), (1, .inl a1)]) (st' := [.inr (.inl (J 0 96)), .inr (.inr (some 0))]) (h' := gr_h I J) (C := (((True ∧ True) ∧ True) ∧ True)) rfl ⟨⟨⟨trivial, trivial⟩, trivial⟩, trivial⟩ ?_
    obtain ⟨r460, h460, E460, P460⟩ := r_is (ws0 := ws0) (tb := tb) hws htb ext I J hI (J 0 96)  
    obtain ⟨rfl, ⟨z460, rfl, q460⟩⟩ := P460
    refine gv_callV hD rfl (As := [.inr (.inl (J 0 96))]) (st := []) rfl (by decide) rfl rfl (gr_lV hws rfl) (Nat.le_of_ble_eq_true rfl) (gz_Ev_mono (d := 1) (by decide) E460) ?_
    show gv_X _ _ (19, [(0, .inr (.inr (some 0))), (1, .inl a1)], [.inl z460], gr_sh ++ ext, gr_h I J)
    refine gv_if_ne (t := 28) hD rfl rfl ⟨by omega, by omega⟩ (fun c461 => ?_) (fun c461 => ?_)
    · exact L28 (by omega) x6
    · refine gv_run 2 true hD (pc' := 24) (lv' := [(0, .inr (.inr (some 0))), (1, .inl a1)]) (st' := [.inl 1, .inr (.inr (some 0))]) (h' := gr_h I J) (C := ((True ∧ True) ∧ True)) rfl ⟨⟨trivial, trivial⟩, trivial⟩ ?_
      obtain ⟨r462, h462, E462, P462⟩ := r_no_ (ws0 := ws0) (tb := tb) hws htb ext I J hI 1 ⟨by omega, by omega⟩ 
      obtain ⟨I463, J464, rfl, hI463, g462, k462, ⟨z462, rfl, q462⟩⟩ := P462
      have FI463 := gr_frt FI g462 rfl rfl
      have FJ464 := gr_fjt FJ k462 rfl rfl
      have t465 := g462 0 71 rfl
      have t466 := g462 0 72 rfl
      have t467 := g462 0 73 rfl
      have t468 := g462 0 69 rfl
      have t469 := g462 0 6 rfl
      have t470 := g462 0 119 rfl
      have t471 := g462 0 118 rfl
      have t472 := g462 0 120 rfl
      have f473 := (show 0 ≤ I463 0 71 ∧ I463 0 71 ≤ 5 from (hI463 0 71).1)
      have f474 := (show 0 ≤ I463 0 72 ∧ I463 0 72 ≤ 1000 from (hI463 0 72).1)
      have f475 := (show 0 ≤ I463 0 73 ∧ I463 0 73 ≤ 1001 from (hI463 0 73).1)
      have f476 := (show 0 ≤ I463 0 69 ∧ I463 0 69 ≤ 1000 from (hI463 0 69).1)
      have f477 := (show (-1) ≤ I463 0 6 ∧ I463 0 6 ≤ 7 from (hI463 0 6).1)
      have f478 := (show 0 ≤ I463 0 119 ∧ I463 0 119 ≤ 6 from (hI463 0 119).1)
      have f479 := (show 0 ≤ I463 0 118 ∧ I463 0 118 ≤ 6 from (hI463 0 118).1)
      have f480 := (show 0 ≤ I463 0 120 ∧ I463 0 120 ≤ 3 from (hI463 0 120).1)
      refine gv_callV hD rfl (As := [.inl 1]) (st := []) rfl (by decide) rfl rfl (gr_lV hws rfl) (Nat.le_of_ble_eq_true rfl) (gz_Ev_mono (d := 2) (by decide) E462) ?_
      show gv_X _ _ (27, [(0, .inr (.inr (some 0))), (1, .inl a1)], [.inl z462], gr_sh ++ ext, gr_h I463 J464)
      exact gv_zret hD rfl (by omega) ⟨I463, J464, rfl, hI463, FI463, FJ464, ⟨_, rfl, by omega, by omega, by omega, by omega, by omega, by omega, by omega, by omega, by omega, by omega, (gr_o_a (by omega))⟩⟩
