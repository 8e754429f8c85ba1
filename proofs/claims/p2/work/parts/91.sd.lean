/-! AN ITEM, A SAYING. -/
def gr_R1u (f : Int) (I : gr_I) : Prop := gr_AT f (I 0 118 + 1) I ∧ gr_SE I
theorem gr_R1u_fr {f : Int} {I I' : gr_I} (h : gr_R1u f I) (h1 : ∀ k, I' 68 k = I 68 k) (h2 : ∀ k, I' 74 k = I 74 k) (h3 : ∀ k, I' 6 k = I 6 k) (h4 : ∀ k, I' 70 k = I 70 k) (h5 : ∀ k, I' 71 k = I 71 k) (h6 : I' 0 118 = I 0 118) (h7 : I' 0 119 = I 0 119) : gr_R1u f I' := ⟨by rw [h6]; exact gr_AT_fr h.1 h1 h2 h3, gr_SE_fr h.2 h4 h5 h7⟩
theorem gr_R1_up {f : Int} {I I' : gr_I} (h : gr_R1u f I) (h1 : ∀ k, I' 68 k = I 68 k) (h2 : ∀ k, I' 74 k = I 74 k) (h3 : ∀ k, I' 6 k = I 6 k) (h4 : ∀ k, I' 70 k = I 70 k) (h5 : ∀ k, I' 71 k = I 71 k) (h6 : I' 0 118 = I 0 118 + 1) (h7 : I' 0 119 = I 0 119) : gr_R1 f I' := ⟨by rw [h6]; exact gr_AT_fr h.1 h1 h2 h3, gr_SE_fr h.2 h4 h5 h7⟩
theorem gr_R1_t {f : Int} {k : Nat} {I I' : gr_I} (h : gr_R1 f I) (p : ∀ b j, ¬ (b = 68 ∧ j = k) → I' b j = I b j) (hk : k = Int.toNat (I 0 118)) (h0 : 0 ≤ I' 68 k) (hn : 0 ≤ I 0 118) : gr_R1u f I' := by
  subst hk
  have e := p 0 118 (fun q => absurd q.1 (by decide))
  refine ⟨by rw [e]; exact gr_AT_t h.1 hn (fun k hk => p _ _ (fun q => hk q.2)) h0 (fun k => p _ _ (fun q => absurd q.1 (by decide))) (fun k => p _ _ (fun q => absurd q.1 (by decide))), gr_SE_fr h.2 (fun k => p _ _ (fun q => absurd q.1 (by decide))) (fun k => p _ _ (fun q => absurd q.1 (by decide))) (p _ _ (fun q => absurd q.1 (by decide)))⟩
theorem gr_R1_a {f : Int} {b k : Nat} {I I1 I' : gr_I} (h : gr_R1 f I) (p1 : ∀ c j, ¬ (c = 74 ∧ j = b) → I1 c j = I c j) (q1 : 0 ≤ I1 74 b) (p : ∀ c j, ¬ (c = 68 ∧ j = k) → I' c j = I1 c j) (hk : k = Int.toNat (I1 0 118)) (q2 : I' 68 k = -1 - (b : Int)) (ha : I 74 b < 0) (hb : b < 4) (hbf : (b : Int) < I 6 (Int.toNat f)) (hn : 0 ≤ I1 0 118) : gr_R1u f I' := by
  subst hk
  have e1 := p1 0 118 (fun q => absurd q.1 (by decide))
  have e := p 0 118 (fun q => absurd q.1 (by decide))
  refine ⟨?_, gr_SE_fr h.2 (fun k => (p _ _ (fun q => absurd q.1 (by decide))).trans (p1 _ _ (fun q => absurd q.1 (by decide)))) (fun k => (p _ _ (fun q => absurd q.1 (by decide))).trans (p1 _ _ (fun q => absurd q.1 (by decide)))) ((p _ _ (fun q => absurd q.1 (by decide))).trans (p1 _ _ (fun q => absurd q.1 (by decide))))⟩
  rw [e, e1]
  refine gr_AT_a (b := b) h.1 (by omega) hb hbf ha (fun k hk => (p _ _ (fun q => hk (by rw [q.2, e1]))).trans (p1 _ _ (fun q => absurd q.1 (by decide)))) (by rw [← e1]; exact q2) (fun k hk => (p _ _ (fun q => absurd q.1 (by decide))).trans (p1 _ _ (fun q => hk q.2))) (by rw [p _ _ (fun q => absurd q.1 (by decide))]; exact q1) (fun k => (p _ _ (fun q => absurd q.1 (by decide))).trans (p1 _ _ (fun q => absurd q.1 (by decide))))
theorem gr_R1_s {f : Int} {I I' : gr_I} (h : gr_R1 f I) (h1 : ∀ k, I' 68 k = I 68 k) (h2 : ∀ k, I' 74 k = I 74 k) (h3 : ∀ k, I' 6 k = I 6 k) (h4 : ∀ k : Nat, ¬ k = Int.toNat (I 0 119) → I' 70 k = I 70 k) (h5 : ∀ k : Nat, ¬ k = Int.toNat (I 0 119) → I' 71 k = I 71 k) (h6 : I' 0 118 = I 0 118) (h7 : I' 0 119 = I 0 119) : gr_R1 f I' := ⟨by rw [h6]; exact gr_AT_fr h.1 h1 h2 h3, gr_SE_o h.2 (fun k hk => h4 k (by omega)) (fun k hk => h5 k (by omega)) h7⟩
theorem gr_R1_n {f : Int} {I I' : gr_I} (h : gr_R1 f I) (p : ∀ b j, ¬ (b = 0 ∧ j = 119) → I' b j = I b j) (h3 : I' 0 119 = I 0 119 + 1) (h4 : I 70 (Int.toNat (I 0 119)) = 2 ∨ I 71 (Int.toNat (I 0 119)) ≤ 3) : gr_R1 f I' := ⟨by rw [p 0 118 (by decide)]; exact gr_AT_fr h.1 (fun k => p _ _ (fun q => absurd q.1 (by decide))) (fun k => p _ _ (fun q => absurd q.1 (by decide))) (fun k => p _ _ (fun q => absurd q.1 (by decide))), gr_SE_n h.2 (fun k => p _ _ (fun q => absurd q.1 (by decide))) (fun k => p _ _ (fun q => absurd q.1 (by decide))) h3 h4⟩
set_option maxHeartbeats 4000000 in
set_option maxRecDepth 100000 in
theorem r_item_w {ws0 : List Cond} {tb : String → gz_T} (hws : ∀ w ∈ gr_ws, w ∈ ws0) (htb : tb RX13 = gr_T) (ext : gz_Sh) (I : gr_I) (J : gr_J) (hI : gr_Inv I) (a1 : Int) (ha1 : 0 ≤ a1 ∧ a1 ≤ 95) (x0 : I 0 71 = 5 ∨ I 0 73 ≤ I 0 69) (x1 : I 0 72 ≤ I 0 69) (x2 : I 0 71 = 0 ∨ (I 0 72 < I 0 73 ∧ I 0 72 < I 0 69)) (x3 : I 0 71 = 3 → 2 ≤ I 0 73 - I 0 72 ∧ I 0 73 - I 0 72 ≤ 14) (x4 : I 0 72 ≤ I 0 73) (x5 : 0 ≤ I 0 6) (x6 : I 0 59 + I 0 69 - I 0 72 ≤ 1900) (x7 : I 0 71 = 3 ∨ I 0 71 = 2) (x8 : gr_R1 a1 I) : ∃ r h', gz_Ev ws0 tb 12 (yX13_item, cX13_item, 3, (some .boolean)) [.inr (.inr (some 0)), .inl a1] (gr_sh ++ ext) (gr_h I J) r (gr_sh ++ ext) h' 0 0 ∧ (∃ (I' : gr_I) (J' : gr_J), h' = gr_h I' J' ∧ gr_Inv I' ∧ gr_fr [59, 71, 72, 73, 74, 75, 76, 77, 106, 118] [51, 57, 68, 69, 74] I I' ∧ gr_fj [59, 71, 72, 73, 74, 75, 76, 77, 106, 118] [51, 57, 68, 69, 74] J J' ∧ (∃ z : Int, r = some (.inl z) ∧ 0 ≤ z ∧ z ≤ 1 ∧ (I' 0 71 = 5 ∨ I' 0 73 ≤ I' 0 69) ∧ (I' 0 72 ≤ I' 0 69) ∧ (I' 0 71 = 0 ∨ (I' 0 72 < I' 0 73 ∧ I' 0 72 < I' 0 69)) ∧ (I' 0 71 = 3 → 2 ≤ I' 0 73 - I' 0 72 ∧ I' 0 73 - I' 0 72 ≤ 14) ∧ (I' 0 72 ≤ I' 0 73) ∧ (I' 0 69 = I 0 69) ∧ (I 0 73 ≤ I' 0 73) ∧ (I 0 72 ≤ I' 0 72) ∧ (I' 0 59 - I' 0 72 ≤ I 0 59 - I 0 72) ∧ (z = 0 ∨ I 0 72 < I' 0 72) ∧ (gr_o (z = 0) (gr_R1 a1 I')))) := by
  have FI : gr_fr [59, 71, 72, 73, 74, 75, 76, 77, 106, 118] [51, 57, 68, 69, 74] I I := fun _ _ _ => rfl
  have FJ : gr_fj [59, 71, 72, 73, 74, 75, 76, 77, 106, 118] [51, 57, 68, 69, 74] J J := fun _ _ _ => rfl
  have hD : gv_D (gr_E ws0 tb 11 (yX13_item, cX13_item, 3, (some .boolean)) kX13_item) := gq_ok oX13_item
  refine gr_ev (d := 11) (l := kX13_item) (Po := fun r h' => (∃ (I' : gr_I) (J' : gr_J), h' = gr_h I' J' ∧ gr_Inv I' ∧ gr_fr [59, 71, 72, 73, 74, 75, 76, 77, 106, 118] [51, 57, 68, 69, 74] I I' ∧ gr_fj [59, 71, 72, 73, 74, 75, 76, 77, 106, 118] [51, 57, 68, 69, 74] J J' ∧ (∃ z : Int, r = some (.inl z) ∧ 0 ≤ z ∧ z ≤ 1 ∧ (I' 0 71 = 5 ∨ I' 0 73 ≤ I' 0 69) ∧ (I' 0 72 ≤ I' 0 69) ∧ (I' 0 71 = 0 ∨ (I' 0 72 < I' 0 73 ∧ I' 0 72 < I' 0 69)) ∧ (I' 0 71 = 3 → 2 ≤ I' 0 73 - I' 0 72 ∧ I' 0 73 - I' 0 72 ≤ 14) ∧ (I' 0 72 ≤ I' 0 73) ∧ (I' 0 69 = I 0 69) ∧ (I 0 73 ≤ I' 0 73) ∧ (I 0 72 ≤ I' 0 72) ∧ (I' 0 59 - I' 0 72 ≤ I 0 59 - I 0 72) ∧ (z = 0 ∨ I 0 72 < I' 0 72) ∧ (gr_o (z = 0) (gr_R1 a1 I'))))) htb rfl (Nat.le_of_ble_eq_true rfl) ?_
  have f1 := (show 0 ≤ I 0 71 ∧ I 0 71 ≤ 5 from (hI 0 71).1)
  have f2 := (show 0 ≤ I 0 72 ∧ I 0 72 ≤ 1000 from (hI 0 72).1)
  have f3 := (show 0 ≤ I 0 73 ∧ I 0 73 ≤ 1001 from (hI 0 73).1)
  have f4 := (show 0 ≤ I 0 69 ∧ I 0 69 ≤ 1000 from (hI 0 69).1)
  have f5 := (show 0 ≤ I 0 59 ∧ I 0 59 ≤ 2000 from (hI 0 59).1)
  have f6 := (show (-1) ≤ I 0 6 ∧ I 0 6 ≤ 7 from (hI 0 6).1)
  have f7 := (show 0 ≤ I 0 118 ∧ I 0 118 ≤ 6 from (hI 0 118).1)
  have f8 := (show 0 ≤ I 0 119 ∧ I 0 119 ≤ 6 from (hI 0 119).1)
  have f9 := (show 0 ≤ I 0 74 ∧ I 0 74 ≤ 999999 from (hI 0 74).1)
  have L173 : ∀ (I10 : gr_I) (J11 : gr_J) , gr_Inv I10 → gr_fr [59, 71, 72, 73, 74, 75, 76, 77, 106, 118] [51, 57, 68, 69, 74] I I10 → gr_fj [59, 71, 72, 73, 74, 75, 76, 77, 106, 118] [51, 57, 68, 69, 74] J J11 → ((I 0 72 < I10 0 72) ∧ (I10 0 118 ≤ 5) ∧ (I10 0 59 - I10 0 72 ≤ I 0 59 - I 0 72) ∧ (0 ≤ I10 0 6) ∧ (I10 0 71 = 5 ∨ I10 0 73 ≤ I10 0 69) ∧ (I10 0 72 ≤ I10 0 69) ∧ (I10 0 71 = 0 ∨ (I10 0 72 < I10 0 73 ∧ I10 0 72 < I10 0 69)) ∧ (I10 0 71 = 3 → 2 ≤ I10 0 73 - I10 0 72 ∧ I10 0 73 - I10 0 72 ≤ 14) ∧ (I10 0 72 ≤ I10 0 73) ∧ (I10 0 69 = I 0 69) ∧ (I 0 73 ≤ I10 0 73) ∧ (I 0 72 ≤ I10 0 72)) → (gr_R1u a1 I10) → gv_X (gr_E ws0 tb 11 (yX13_item, cX13_item, 3, (some .boolean)) kX13_item) (gv_Q cX13_item (some .boolean) (gr_sh ++ ext) (fun r h' => (∃ (I' : gr_I) (J' : gr_J), h' = gr_h I' J' ∧ gr_Inv I' ∧ gr_fr [59, 71, 72, 73, 74, 75, 76, 77, 106, 118] [51, 57, 68, 69, 74] I I' ∧ gr_fj [59, 71, 72, 73, 74, 75, 76, 77, 106, 118] [51, 57, 68, 69, 74] J J' ∧ (∃ z : Int, r = some (.inl z) ∧ 0 ≤ z ∧ z ≤ 1 ∧ (I' 0 71 = 5 ∨ I' 0 73 ≤ I' 0 69) ∧ (I' 0 72 ≤ I' 0 69) ∧ (I' 0 71 = 0 ∨ (I' 0 72 < I' 0 73 ∧ I' 0 72 < I' 0 69)) ∧ (I' 0 71 = 3 → 2 ≤ I' 0 73 - I' 0 72 ∧ I' 0 73 - I' 0 72 ≤ 14) ∧ (I' 0 72 ≤ I' 0 73) ∧ (I' 0 69 = I 0 69) ∧ (I 0 73 ≤ I' 0 73) ∧ (I 0 72 ≤ I' 0 72) ∧ (I' 0 59 - I' 0 72 ≤ I 0 59 - I 0 72) ∧ (z = 0 ∨ I 0 72 < I' 0 72) ∧ (gr_o (z = 0) (gr_R1 a1 I')))))) (173, [(0, .inr (.inr (some 0)))], [], gr_sh ++ ext, gr_h I10 J11) := by
    intro I10 J11 hI10 FI10 FJ11 m_12 e4_12
    obtain ⟨e0_12, e1_12, e2_12, e3_12, e5_12, e6_12, e7_12, e8_12, e9_12, e10_12, e11_12, e12_12⟩ := m_12
    have f13 := (show 0 ≤ I10 0 71 ∧ I10 0 71 ≤ 5 from (hI10 0 71).1)
    have f14 := (show 0 ≤ I10 0 72 ∧ I10 0 72 ≤ 1000 from (hI10 0 72).1)
    have f15 := (show 0 ≤ I10 0 73 ∧ I10 0 73 ≤ 1001 from (hI10 0 73).1)
    have f16 := (show 0 ≤ I10 0 69 ∧ I10 0 69 ≤ 1000 from (hI10 0 69).1)
    have f17 := (show 0 ≤ I10 0 59 ∧ I10 0 59 ≤ 2000 from (hI10 0 59).1)
    have f18 := (show (-1) ≤ I10 0 6 ∧ I10 0 6 ≤ 7 from (hI10 0 6).1)
    have f19 := (show 0 ≤ I10 0 118 ∧ I10 0 118 ≤ 6 from (hI10 0 118).1)
    have f20 := (show 0 ≤ I10 0 119 ∧ I10 0 119 ≤ 6 from (hI10 0 119).1)
    have f21 := (show 0 ≤ I10 0 74 ∧ I10 0 74 ≤ 999999 from (hI10 0 74).1)
    have f22 := (show 0 ≤ I10 0 118 ∧ I10 0 118 ≤ 6 from (hI10 0 118).1)
    refine gv_run 7 true hD (pc' := 184) (lv' := [(0, .inr (.inr (some 0)))]) (st' := [.inl 1, .inl (I10 0 118), .inr (.inr (some 0)), .inl (I10 0 118), .inr (.inr (some 69))]) (h' := gr_h I10 J11) (C := (((((((True ∧ True) ∧ True) ∧ True) ∧ True) ∧ True) ∧ True) ∧ True)) rfl ⟨⟨⟨⟨⟨⟨⟨trivial, trivial⟩, trivial⟩, trivial⟩, trivial⟩, trivial⟩, trivial⟩, trivial⟩ ?_
    refine gv_run 2 true hD (pc' := 188) (lv' := [(0, .inr (.inr (some 0)))]) (st' := [.inl (I10 0 118), .inr (.inr (some 69))]) (h' := gz_up (gr_h I10 J11) 0 118 (.inl (((I10 0 118) + 1)))) (C := ((True ∧ True) ∧ True)) rfl ⟨⟨trivial, trivial⟩, trivial⟩ ?_
    refine gr_st hI10 FI10 rfl rfl ⟨⟨by show 0 ≤ _; omega, by show _ ≤ 6; omega⟩, trivial⟩ (fun I23 hI23 FI23 q24 p24 => ?_)
    have t25 := p24 0 71 (by decide)
    have t26 := p24 0 72 (by decide)
    have t27 := p24 0 73 (by decide)
    have t28 := p24 0 69 (by decide)
    have t29 := p24 0 59 (by decide)
    have t30 := p24 0 6 (by decide)
    have t31 := p24 0 119 (by decide)
    have t32 := p24 0 74 (by decide)
    have f33 := (show 0 ≤ I23 0 71 ∧ I23 0 71 ≤ 5 from (hI23 0 71).1)
    have f34 := (show 0 ≤ I23 0 72 ∧ I23 0 72 ≤ 1000 from (hI23 0 72).1)
    have f35 := (show 0 ≤ I23 0 73 ∧ I23 0 73 ≤ 1001 from (hI23 0 73).1)
    have f36 := (show 0 ≤ I23 0 69 ∧ I23 0 69 ≤ 1000 from (hI23 0 69).1)
    have f37 := (show 0 ≤ I23 0 59 ∧ I23 0 59 ≤ 2000 from (hI23 0 59).1)
    have f38 := (show (-1) ≤ I23 0 6 ∧ I23 0 6 ≤ 7 from (hI23 0 6).1)
    have f39 := (show 0 ≤ I23 0 118 ∧ I23 0 118 ≤ 6 from (hI23 0 118).1)
    have f40 := (show 0 ≤ I23 0 119 ∧ I23 0 119 ≤ 6 from (hI23 0 119).1)
    have f41 := (show 0 ≤ I23 0 74 ∧ I23 0 74 ≤ 999999 from (hI23 0 74).1)
    have f42 := (show 0 ≤ I23 0 106 ∧ I23 0 106 ≤ 16777215 from (hI23 0 106).1)
    refine gv_run 3 true hD (pc' := 193) (lv' := [(0, .inr (.inr (some 0)))]) (st' := []) (h' := gz_up (gr_h I23 J11) 69 (Int.toNat ((I10 0 118))) (.inl (I23 0 106))) (C := (((True ∧ True) ∧ True) ∧ (0 ≤ (I10 0 118) ∧ (I10 0 118) < ((6 : Nat) : Int)))) rfl ⟨⟨⟨trivial, trivial⟩, trivial⟩, ⟨by omega, by omega⟩⟩ ?_
    refine gr_st hI23 FI23 rfl rfl ⟨⟨by show 0 ≤ _; omega, by show _ ≤ 16777215; omega⟩, trivial⟩ (fun I43 hI43 FI43 q44 p44 => ?_)
    have t45 := p44 0 71 (fun q => absurd q.1 (by decide))
    have t46 := p44 0 72 (fun q => absurd q.1 (by decide))
    have t47 := p44 0 73 (fun q => absurd q.1 (by decide))
    have t48 := p44 0 69 (fun q => absurd q.1 (by decide))
    have t49 := p44 0 59 (fun q => absurd q.1 (by decide))
    have t50 := p44 0 6 (fun q => absurd q.1 (by decide))
    have t51 := p44 0 118 (fun q => absurd q.1 (by decide))
    have t52 := p44 0 119 (fun q => absurd q.1 (by decide))
    have t53 := p44 0 74 (fun q => absurd q.1 (by decide))
    have f54 := (show 0 ≤ I43 0 71 ∧ I43 0 71 ≤ 5 from (hI43 0 71).1)
    have f55 := (show 0 ≤ I43 0 72 ∧ I43 0 72 ≤ 1000 from (hI43 0 72).1)
    have f56 := (show 0 ≤ I43 0 73 ∧ I43 0 73 ≤ 1001 from (hI43 0 73).1)
    have f57 := (show 0 ≤ I43 0 69 ∧ I43 0 69 ≤ 1000 from (hI43 0 69).1)
    have f58 := (show 0 ≤ I43 0 59 ∧ I43 0 59 ≤ 2000 from (hI43 0 59).1)
    have f59 := (show (-1) ≤ I43 0 6 ∧ I43 0 6 ≤ 7 from (hI43 0 6).1)
    have f60 := (show 0 ≤ I43 0 118 ∧ I43 0 118 ≤ 6 from (hI43 0 118).1)
    have f61 := (show 0 ≤ I43 0 119 ∧ I43 0 119 ≤ 6 from (hI43 0 119).1)
    have f62 := (show 0 ≤ I43 0 74 ∧ I43 0 74 ≤ 999999 from (hI43 0 74).1)
    refine gv_run 1 true hD (pc' := 194) (lv' := [(0, .inr (.inr (some 0)))]) (st' := [.inl 1]) (h' := gr_h I43 J11) (C := (True ∧ True)) rfl ⟨trivial, trivial⟩ ?_
    exact gv_zret hD rfl (by omega) ⟨I43, J11, rfl, hI43, FI43, FJ11, ⟨_, rfl, by omega, by omega, by omega, by omega, by omega, by omega, by omega, by omega, by omega, by omega, by omega, by omega, (gr_o_b (gr_R1_fr (gr_R1_up e4_12 (fun k => p24 68 k (fun q => absurd q.1 (by decide))) (fun k => p24 74 k (fun q => absurd q.1 (by decide))) (fun k => p24 6 k (fun q => absurd q.1 (by decide))) (fun k => p24 70 k (fun q => absurd q.1 (by decide))) (fun k => p24 71 k (fun q => absurd q.1 (by decide))) (by omega) (by omega)) (fun k => p44 68 k (fun q => absurd q.1 (by decide))) (fun k => p44 74 k (fun q => absurd q.1 (by decide))) (fun k => p44 6 k (fun q => absurd q.1 (by decide))) (fun k => p44 70 k (fun q => absurd q.1 (by decide))) (fun k => p44 71 k (fun q => absurd q.1 (by decide))) (p44 0 118 (fun q => absurd q.1 (by decide))) (p44 0 119 (fun q => absurd q.1 (by decide)))))⟩⟩
  have L91 : ∀ (I63 : gr_I) (J64 : gr_J) , gr_Inv I63 → gr_fr [59, 71, 72, 73, 74, 75, 76, 77, 106, 118] [51, 57, 68, 69, 74] I I63 → gr_fj [59, 71, 72, 73, 74, 75, 76, 77, 106, 118] [51, 57, 68, 69, 74] J J64 → ((I63 0 59 - I63 0 72 ≤ I 0 59 - I 0 72) ∧ (I63 0 71 = 5 ∨ I63 0 73 ≤ I63 0 69) ∧ (I63 0 72 ≤ I63 0 69) ∧ (I63 0 71 = 0 ∨ (I63 0 72 < I63 0 73 ∧ I63 0 72 < I63 0 69)) ∧ (I63 0 71 = 3 → 2 ≤ I63 0 73 - I63 0 72 ∧ I63 0 73 - I63 0 72 ≤ 14) ∧ (I63 0 72 ≤ I63 0 73) ∧ (I63 0 69 = I 0 69) ∧ (I 0 73 ≤ I63 0 73) ∧ (I 0 72 ≤ I63 0 72)) → gv_X (gr_E ws0 tb 11 (yX13_item, cX13_item, 3, (some .boolean)) kX13_item) (gv_Q cX13_item (some .boolean) (gr_sh ++ ext) (fun r h' => (∃ (I' : gr_I) (J' : gr_J), h' = gr_h I' J' ∧ gr_Inv I' ∧ gr_fr [59, 71, 72, 73, 74, 75, 76, 77, 106, 118] [51, 57, 68, 69, 74] I I' ∧ gr_fj [59, 71, 72, 73, 74, 75, 76, 77, 106, 118] [51, 57, 68, 69, 74] J J' ∧ (∃ z : Int, r = some (.inl z) ∧ 0 ≤ z ∧ z ≤ 1 ∧ (I' 0 71 = 5 ∨ I' 0 73 ≤ I' 0 69) ∧ (I' 0 72 ≤ I' 0 69) ∧ (I' 0 71 = 0 ∨ (I' 0 72 < I' 0 73 ∧ I' 0 72 < I' 0 69)) ∧ (I' 0 71 = 3 → 2 ≤ I' 0 73 - I' 0 72 ∧ I' 0 73 - I' 0 72 ≤ 14) ∧ (I' 0 72 ≤ I' 0 73) ∧ (I' 0 69 = I 0 69) ∧ (I 0 73 ≤ I' 0 73) ∧ (I 0 72 ≤ I' 0 72) ∧ (I' 0 59 - I' 0 72 ≤ I 0 59 - I 0 72) ∧ (z = 0 ∨ I 0 72 < I' 0 72) ∧ (gr_o (z = 0) (gr_R1 a1 I')))))) (91, [(0, .inr (.inr (some 0)))], [], gr_sh ++ ext, gr_h I63 J64) := by
    intro I63 J64 hI63 FI63 FJ64 m_65
    obtain ⟨e0_65, e1_65, e2_65, e3_65, e4_65, e5_65, e6_65, e7_65, e8_65⟩ := m_65
    have f66 := (show 0 ≤ I63 0 71 ∧ I63 0 71 ≤ 5 from (hI63 0 71).1)
    have f67 := (show 0 ≤ I63 0 72 ∧ I63 0 72 ≤ 1000 from (hI63 0 72).1)
    have f68 := (show 0 ≤ I63 0 73 ∧ I63 0 73 ≤ 1001 from (hI63 0 73).1)
    have f69 := (show 0 ≤ I63 0 69 ∧ I63 0 69 ≤ 1000 from (hI63 0 69).1)
    have f70 := (show 0 ≤ I63 0 59 ∧ I63 0 59 ≤ 2000 from (hI63 0 59).1)
    have f71 := (show (-1) ≤ I63 0 6 ∧ I63 0 6 ≤ 7 from (hI63 0 6).1)
    have f72 := (show 0 ≤ I63 0 118 ∧ I63 0 118 ≤ 6 from (hI63 0 118).1)
    have f73 := (show 0 ≤ I63 0 119 ∧ I63 0 119 ≤ 6 from (hI63 0 119).1)
    have f74 := (show 0 ≤ I63 0 74 ∧ I63 0 74 ≤ 999999 from (hI63 0 74).1)
    refine gv_run 2 true hD (pc' := 93) (lv' := [(0, .inr (.inr (some 0)))]) (st' := [.inl 5, .inr (.inr (some 0))]) (h' := gr_h I63 J64) (C := ((True ∧ True) ∧ True)) rfl ⟨⟨trivial, trivial⟩, trivial⟩ ?_
    obtain ⟨r75, h75, E75, P75⟩ := r_no_ (ws0 := ws0) (tb := tb) hws htb ext I63 J64 hI63 5 ⟨by omega, by omega⟩ 
    obtain ⟨I76, J77, rfl, hI76, g75, k75, ⟨z75, rfl, q75⟩⟩ := P75
    have FI76 := gr_frt FI63 g75 rfl rfl
    have FJ77 := gr_fjt FJ64 k75 rfl rfl
    have t78 := g75 0 71 rfl
    have t79 := g75 0 72 rfl
    have t80 := g75 0 73 rfl
    have t81 := g75 0 69 rfl
    have t82 := g75 0 59 rfl
    have t83 := g75 0 6 rfl
    have t84 := g75 0 118 rfl
    have t85 := g75 0 119 rfl
    have t86 := g75 0 74 rfl
    have f87 := (show 0 ≤ I76 0 71 ∧ I76 0 71 ≤ 5 from (hI76 0 71).1)
    have f88 := (show 0 ≤ I76 0 72 ∧ I76 0 72 ≤ 1000 from (hI76 0 72).1)
    have f89 := (show 0 ≤ I76 0 73 ∧ I76 0 73 ≤ 1001 from (hI76 0 73).1)
    have f90 := (show 0 ≤ I76 0 69 ∧ I76 0 69 ≤ 1000 from (hI76 0 69).1)
    have f91 := (show 0 ≤ I76 0 59 ∧ I76 0 59 ≤ 2000 from (hI76 0 59).1)
    have f92 := (show (-1) ≤ I76 0 6 ∧ I76 0 6 ≤ 7 from (hI76 0 6).1)
    have f93 := (show 0 ≤ I76 0 118 ∧ I76 0 118 ≤ 6 from (hI76 0 118).1)
    have f94 := (show 0 ≤ I76 0 119 ∧ I76 0 119 ≤ 6 from (hI76 0 119).1)
    have f95 := (show 0 ≤ I76 0 74 ∧ I76 0 74 ≤ 999999 from (hI76 0 74).1)
    refine gv_callV hD rfl (As := [.inl 5]) (st := []) rfl (by decide) rfl rfl (gr_lV hws rfl) (Nat.le_of_ble_eq_true rfl) (gz_Ev_mono (d := 2) (by decide) E75) ?_
    show gv_X _ _ (96, [(0, .inr (.inr (some 0)))], [.inl z75], gr_sh ++ ext, gr_h I76 J77)
    exact gv_zret hD rfl (by omega) ⟨I76, J77, rfl, hI76, FI76, FJ77, ⟨_, rfl, by omega, by omega, by omega, by omega, by omega, by omega, by omega, by omega, by omega, by omega, by omega, by omega, (gr_o_a (by omega))⟩⟩
  have L145 : ∀ (n : Nat) (I96 : gr_I) (J97 : gr_J) , (1001 - I96 0 72).toNat < n → gr_Inv I96 → gr_fr [59, 71, 72, 73, 74, 75, 76, 77, 106, 118] [51, 57, 68, 69, 74] I I96 → gr_fj [59, 71, 72, 73, 74, 75, 76, 77, 106, 118] [51, 57, 68, 69, 74] J J97 → ((I 0 72 < I96 0 72) ∧ (I96 0 118 ≤ 5) ∧ (I96 0 59 - I96 0 72 ≤ I 0 59 - I 0 72) ∧ (0 ≤ I96 0 6) ∧ (I96 0 71 = 5 ∨ I96 0 73 ≤ I96 0 69) ∧ (I96 0 72 ≤ I96 0 69) ∧ (I96 0 71 = 0 ∨ (I96 0 72 < I96 0 73 ∧ I96 0 72 < I96 0 69)) ∧ (I96 0 71 = 3 → 2 ≤ I96 0 73 - I96 0 72 ∧ I96 0 73 - I96 0 72 ≤ 14) ∧ (I96 0 72 ≤ I96 0 73) ∧ (I96 0 69 = I 0 69) ∧ (I 0 73 ≤ I96 0 73) ∧ (I 0 72 ≤ I96 0 72)) → (gr_R1u a1 I96) → gv_X (gr_E ws0 tb 11 (yX13_item, cX13_item, 3, (some .boolean)) kX13_item) (gv_Q cX13_item (some .boolean) (gr_sh ++ ext) (fun r h' => (∃ (I' : gr_I) (J' : gr_J), h' = gr_h I' J' ∧ gr_Inv I' ∧ gr_fr [59, 71, 72, 73, 74, 75, 76, 77, 106, 118] [51, 57, 68, 69, 74] I I' ∧ gr_fj [59, 71, 72, 73, 74, 75, 76, 77, 106, 118] [51, 57, 68, 69, 74] J J' ∧ (∃ z : Int, r = some (.inl z) ∧ 0 ≤ z ∧ z ≤ 1 ∧ (I' 0 71 = 5 ∨ I' 0 73 ≤ I' 0 69) ∧ (I' 0 72 ≤ I' 0 69) ∧ (I' 0 71 = 0 ∨ (I' 0 72 < I' 0 73 ∧ I' 0 72 < I' 0 69)) ∧ (I' 0 71 = 3 → 2 ≤ I' 0 73 - I' 0 72 ∧ I' 0 73 - I' 0 72 ≤ 14) ∧ (I' 0 72 ≤ I' 0 73) ∧ (I' 0 69 = I 0 69) ∧ (I 0 73 ≤ I' 0 73) ∧ (I 0 72 ≤ I' 0 72) ∧ (I' 0 59 - I' 0 72 ≤ I 0 59 - I 0 72) ∧ (z = 0 ∨ I 0 72 < I' 0 72) ∧ (gr_o (z = 0) (gr_R1 a1 I')))))) (145, [(0, .inr (.inr (some 0)))], [], gr_sh ++ ext, gr_h I96 J97) := by
    intro n
    induction n with
    | zero => intro I96 J97 hn; omega
    | succ n ih145 =>
      intro I96 J97 hn hI96 FI96 FJ97 m_98 e4_98
      obtain ⟨e0_98, e1_98, e2_98, e3_98, e5_98, e6_98, e7_98, e8_98, e9_98, e10_98, e11_98, e12_98⟩ := m_98
      have f99 := (show 0 ≤ I96 0 71 ∧ I96 0 71 ≤ 5 from (hI96 0 71).1)
      have f100 := (show 0 ≤ I96 0 72 ∧ I96 0 72 ≤ 1000 from (hI96 0 72).1)
      have f101 := (show 0 ≤ I96 0 73 ∧ I96 0 73 ≤ 1001 from (hI96 0 73).1)
      have f102 := (show 0 ≤ I96 0 69 ∧ I96 0 69 ≤ 1000 from (hI96 0 69).1)
      have f103 := (show 0 ≤ I96 0 59 ∧ I96 0 59 ≤ 2000 from (hI96 0 59).1)
      have f104 := (show (-1) ≤ I96 0 6 ∧ I96 0 6 ≤ 7 from (hI96 0 6).1)
      have f105 := (show 0 ≤ I96 0 118 ∧ I96 0 118 ≤ 6 from (hI96 0 118).1)
      have f106 := (show 0 ≤ I96 0 119 ∧ I96 0 119 ≤ 6 from (hI96 0 119).1)
      have f107 := (show 0 ≤ I96 0 74 ∧ I96 0 74 ≤ 999999 from (hI96 0 74).1)
      have f108 := (show 0 ≤ I96 0 71 ∧ I96 0 71 ≤ 5 from (hI96 0 71).1)
      refine gv_run 3 true hD (pc' := 150) (lv' := [(0, .inr (.inr (some 0)))]) (st' := [.inl 1, .inl (I96 0 71)]) (h' := gr_h I96 J97) (C := (((True ∧ True) ∧ True) ∧ True)) rfl ⟨⟨⟨trivial, trivial⟩, trivial⟩, trivial⟩ ?_
      refine gv_icmp_ne (t := 162) hD rfl rfl ⟨⟨by omega, by omega⟩, ⟨by omega, by omega⟩⟩ (fun c109 => ?_) (fun c109 => ?_)
      · refine gv_run 2 true hD (pc' := 165) (lv' := [(0, .inr (.inr (some 0)))]) (st' := [.inl 93, .inr (.inr (some 0))]) (h' := gr_h I96 J97) (C := ((True ∧ True) ∧ True)) rfl ⟨⟨trivial, trivial⟩, trivial⟩ ?_
        obtain ⟨r110, h110, E110, P110⟩ := r_need (ws0 := ws0) (tb := tb) hws htb ext I96 J97 hI96 93 ⟨by omega, by omega⟩ (by omega) (by omega) (by omega) (by omega) (by omega)
        obtain ⟨I111, J112, rfl, hI111, g110, k110, ⟨z110, rfl, q110⟩⟩ := P110
        have FI111 := gr_frt FI96 g110 rfl rfl
        have FJ112 := gr_fjt FJ97 k110 rfl rfl
        have t113 := g110 0 69 rfl
        have t114 := g110 0 59 rfl
        have t115 := g110 0 6 rfl
        have t116 := g110 0 118 rfl
        have t117 := g110 0 119 rfl
        have f118 := (show 0 ≤ I111 0 71 ∧ I111 0 71 ≤ 5 from (hI111 0 71).1)
        have f119 := (show 0 ≤ I111 0 72 ∧ I111 0 72 ≤ 1000 from (hI111 0 72).1)
        have f120 := (show 0 ≤ I111 0 73 ∧ I111 0 73 ≤ 1001 from (hI111 0 73).1)
        have f121 := (show 0 ≤ I111 0 69 ∧ I111 0 69 ≤ 1000 from (hI111 0 69).1)
        have f122 := (show 0 ≤ I111 0 59 ∧ I111 0 59 ≤ 2000 from (hI111 0 59).1)
        have f123 := (show (-1) ≤ I111 0 6 ∧ I111 0 6 ≤ 7 from (hI111 0 6).1)
        have f124 := (show 0 ≤ I111 0 118 ∧ I111 0 118 ≤ 6 from (hI111 0 118).1)
        have f125 := (show 0 ≤ I111 0 119 ∧ I111 0 119 ≤ 6 from (hI111 0 119).1)
        have f126 := (show 0 ≤ I111 0 74 ∧ I111 0 74 ≤ 999999 from (hI111 0 74).1)
        refine gv_callV hD rfl (As := [.inl 93]) (st := []) rfl (by decide) rfl rfl (gr_lV hws rfl) (Nat.le_of_ble_eq_true rfl) (gz_Ev_mono (d := 11) (by decide) E110) ?_
        show gv_X _ _ (168, [(0, .inr (.inr (some 0)))], [.inl z110], gr_sh ++ ext, gr_h I111 J112)
        refine gv_if_ne (t := 173) hD rfl rfl ⟨by omega, by omega⟩ (fun c127 => ?_) (fun c127 => ?_)
        · exact L173 I111 J112 hI111 FI111 FJ112 (by omega) (gr_R1u_fr e4_98 (fun k => g110 68 k rfl) (fun k => g110 74 k rfl) (fun k => g110 6 k rfl) (fun k => g110 70 k rfl) (fun k => g110 71 k rfl) (g110 0 118 rfl) (g110 0 119 rfl))
        · refine gv_run 1 true hD (pc' := 172) (lv' := [(0, .inr (.inr (some 0)))]) (st' := [.inl 0]) (h' := gr_h I111 J112) (C := (True ∧ True)) rfl ⟨trivial, trivial⟩ ?_
          exact gv_zret hD rfl (by omega) ⟨I111, J112, rfl, hI111, FI111, FJ112, ⟨_, rfl, by omega, by omega, by omega, by omega, by omega, by omega, by omega, by omega, by omega, by omega, by omega, by omega, (gr_o_a (by omega))⟩⟩
      · refine gv_run 1 true hD (pc' := 154) (lv' := [(0, .inr (.inr (some 0)))]) (st' := [.inr (.inr (some 0))]) (h' := gr_h I96 J97) (C := (True ∧ True)) rfl ⟨trivial, trivial⟩ ?_
        obtain ⟨r128, h128, E128, P128⟩ := r_oneValue (ws0 := ws0) (tb := tb) hws htb ext I96 J97 hI96   (by omega) (by omega) (by omega) (by omega) (by omega) (by omega) (by omega)
        obtain ⟨I129, J130, rfl, hI129, g128, k128, ⟨z128, rfl, q128⟩⟩ := P128
        have FI129 := gr_frt FI96 g128 rfl rfl
        have FJ130 := gr_fjt FJ97 k128 rfl rfl
        have t131 := g128 0 69 rfl
        have t132 := g128 0 59 rfl
        have t133 := g128 0 6 rfl
        have t134 := g128 0 118 rfl
        have t135 := g128 0 119 rfl
        have f136 := (show 0 ≤ I129 0 71 ∧ I129 0 71 ≤ 5 from (hI129 0 71).1)
        have f137 := (show 0 ≤ I129 0 72 ∧ I129 0 72 ≤ 1000 from (hI129 0 72).1)
        have f138 := (show 0 ≤ I129 0 73 ∧ I129 0 73 ≤ 1001 from (hI129 0 73).1)
        have f139 := (show 0 ≤ I129 0 69 ∧ I129 0 69 ≤ 1000 from (hI129 0 69).1)
        have f140 := (show 0 ≤ I129 0 59 ∧ I129 0 59 ≤ 2000 from (hI129 0 59).1)
        have f141 := (show (-1) ≤ I129 0 6 ∧ I129 0 6 ≤ 7 from (hI129 0 6).1)
        have f142 := (show 0 ≤ I129 0 118 ∧ I129 0 118 ≤ 6 from (hI129 0 118).1)
        have f143 := (show 0 ≤ I129 0 119 ∧ I129 0 119 ≤ 6 from (hI129 0 119).1)
        have f144 := (show 0 ≤ I129 0 74 ∧ I129 0 74 ≤ 999999 from (hI129 0 74).1)
        refine gv_callV hD rfl (As := []) (st := []) rfl (by decide) rfl rfl (gr_lV hws rfl) (Nat.le_of_ble_eq_true rfl) (gz_Ev_mono (d := 11) (by decide) E128) ?_
        show gv_X _ _ (157, [(0, .inr (.inr (some 0)))], [.inl z128], gr_sh ++ ext, gr_h I129 J130)
        refine gv_if_ne (t := 145) hD rfl rfl ⟨by omega, by omega⟩ (fun c145 => ?_) (fun c145 => ?_)
        · exact ih145 I129 J130 (by omega) hI129 FI129 FJ130 (by omega) (gr_R1u_fr e4_98 (fun k => g128 68 k rfl) (fun k => g128 74 k rfl) (fun k => g128 6 k rfl) (fun k => g128 70 k rfl) (fun k => g128 71 k rfl) (g128 0 118 rfl) (g128 0 119 rfl))
        · refine gv_run 1 true hD (pc' := 161) (lv' := [(0, .inr (.inr (some 0)))]) (st' := [.inl 0]) (h' := gr_h I129 J130) (C := (True ∧ True)) rfl ⟨trivial, trivial⟩ ?_
          exact gv_zret hD rfl (by omega) ⟨I129, J130, rfl, hI129, FI129, FJ130, ⟨_, rfl, by omega, by omega, by omega, by omega, by omega, by omega, by omega, by omega, by omega, by omega, by omega, by omega, (gr_o_a (by omega))⟩⟩
  have f146 := (show 0 ≤ I 0 118 ∧ I 0 118 ≤ 6 from (hI 0 118).1)
  refine gv_run 3 true hD (pc' := 6) (lv' := [(0, .inr (.inr (some 0))), (1, .inl a1)]) (st' := [.inl 6, .inl (I 0 118)]) (h' := gr_h I J) (C := (((True ∧ True) ∧ True) ∧ True)) rfl ⟨⟨⟨trivial, trivial⟩, trivial⟩, trivial⟩ ?_
  refine gv_icmp_ne (t := 15) hD rfl rfl ⟨⟨by omega, by omega⟩, ⟨by omega, by omega⟩⟩ (fun c147 => ?_) (fun c147 => ?_)
  · refine gv_run 3 true hD (pc' := 20) (lv' := [(0, .inr (.inr (some 0))), (1, .inl a1)]) (st' := []) (h' := gz_up (gr_h I J) 0 106 (.inl 0)) (C := (((True ∧ True) ∧ True) ∧ True)) rfl ⟨⟨⟨trivial, trivial⟩, trivial⟩, trivial⟩ ?_
    refine gr_st hI FI rfl rfl ⟨⟨by show 0 ≤ _; omega, by show _ ≤ 16777215; omega⟩, trivial⟩ (fun I148 hI148 FI148 q149 p149 => ?_)
    have t150 := p149 0 71 (by decide)
    have t151 := p149 0 72 (by decide)
    have t152 := p149 0 73 (by decide)
    have t153 := p149 0 69 (by decide)
    have t154 := p149 0 59 (by decide)
    have t155 := p149 0 6 (by decide)
    have t156 := p149 0 118 (by decide)
    have t157 := p149 0 119 (by decide)
    have t158 := p149 0 74 (by decide)
    have f159 := (show 0 ≤ I148 0 71 ∧ I148 0 71 ≤ 5 from (hI148 0 71).1)
    have f160 := (show 0 ≤ I148 0 72 ∧ I148 0 72 ≤ 1000 from (hI148 0 72).1)
    have f161 := (show 0 ≤ I148 0 73 ∧ I148 0 73 ≤ 1001 from (hI148 0 73).1)
    have f162 := (show 0 ≤ I148 0 69 ∧ I148 0 69 ≤ 1000 from (hI148 0 69).1)
    have f163 := (show 0 ≤ I148 0 59 ∧ I148 0 59 ≤ 2000 from (hI148 0 59).1)
    have f164 := (show (-1) ≤ I148 0 6 ∧ I148 0 6 ≤ 7 from (hI148 0 6).1)
    have f165 := (show 0 ≤ I148 0 118 ∧ I148 0 118 ≤ 6 from (hI148 0 118).1)
    have f166 := (show 0 ≤ I148 0 119 ∧ I148 0 119 ≤ 6 from (hI148 0 119).1)
    have f167 := (show 0 ≤ I148 0 74 ∧ I148 0 74 ≤ 999999 from (hI148 0 74).1)
    have f168 := (show 0 ≤ I148 0 71 ∧ I148 0 71 ≤ 5 from (hI148 0 71).1)
    refine gv_run 3 true hD (pc' := 25) (lv' := [(0, .inr (.inr (some 0))), (1, .inl a1)]) (st' := [.inl 3, .inl (I148 0 71)]) (h' := gr_h I148 J) (C := (((True ∧ True) ∧ True) ∧ True)) rfl ⟨⟨⟨trivial, trivial⟩, trivial⟩, trivial⟩ ?_
    refine gv_icmp_ne (t := 61) hD rfl rfl ⟨⟨by omega, by omega⟩, ⟨by omega, by omega⟩⟩ (fun c169 => ?_) (fun c169 => ?_)
    · have f170 := (show 0 ≤ I148 0 74 ∧ I148 0 74 ≤ 999999 from (hI148 0 74).1)
      refine gv_run 6 true hD (pc' := 69) (lv' := [(2, .inl ((I148 0 74) - 1)), (0, .inr (.inr (some 0))), (1, .inl a1)]) (st' := [.inl ((I148 0 74) - 1)]) (h' := gr_h I148 J) (C := ((((((True ∧ True) ∧ True) ∧ True) ∧ True) ∧ True) ∧ True)) rfl ⟨⟨⟨⟨⟨⟨trivial, trivial⟩, trivial⟩, trivial⟩, trivial⟩, trivial⟩, trivial⟩ ?_
      refine gv_if_lt (t := 91) hD rfl rfl ⟨by omega, by omega⟩ (fun c171 => ?_) (fun c171 => ?_)
      · refine gv_pick [1] rfl ?_
        exact L91 I148 J hI148 FI148 FJ (by omega)
      · have f172 := (show 0 ≤ I148 6 (Int.toNat a1) ∧ I148 6 (Int.toNat a1) ≤ 4 from (hI148 6 (Int.toNat a1)).1)
        refine gv_run 5 true hD (pc' := 79) (lv' := [(2, .inl ((I148 0 74) - 1)), (0, .inr (.inr (some 0))), (1, .inl a1)]) (st' := [.inl (I148 6 (Int.toNat a1)), .inl ((I148 0 74) - 1)]) (h' := gr_h I148 J) (C := (((((True ∧ True) ∧ True) ∧ True) ∧ True) ∧ (0 ≤ a1 ∧ a1 < ((96 : Nat) : Int)))) rfl ⟨⟨⟨⟨⟨trivial, trivial⟩, trivial⟩, trivial⟩, trivial⟩, ⟨by omega, by omega⟩⟩ ?_
        refine gv_icmp_ge (t := 91) hD rfl rfl ⟨⟨by omega, by omega⟩, ⟨by omega, by omega⟩⟩ (fun c173 => ?_) (fun c173 => ?_)
        · refine gv_pick [1] rfl ?_
          exact L91 I148 J hI148 FI148 FJ (by omega)
        · have f174 := (show (-1) ≤ I148 74 (Int.toNat (((I148 0 74) - 1))) ∧ I148 74 (Int.toNat (((I148 0 74) - 1))) ≤ 1000 from (hI148 74 (Int.toNat (((I148 0 74) - 1)))).1)
          refine gv_run 4 true hD (pc' := 88) (lv' := [(2, .inl ((I148 0 74) - 1)), (0, .inr (.inr (some 0))), (1, .inl a1)]) (st' := [.inl (I148 74 (Int.toNat (((I148 0 74) - 1))))]) (h' := gr_h I148 J) (C := ((((True ∧ True) ∧ True) ∧ True) ∧ (0 ≤ (((I148 0 74) - 1)) ∧ (((I148 0 74) - 1)) < ((4 : Nat) : Int)))) rfl ⟨⟨⟨⟨trivial, trivial⟩, trivial⟩, trivial⟩, ⟨by omega, by omega⟩⟩ ?_
          refine gv_if_lt (t := 97) hD rfl rfl ⟨by omega, by omega⟩ (fun c175 => ?_) (fun c175 => ?_)
          · have f176 := (show 0 ≤ I148 0 72 ∧ I148 0 72 ≤ 1000 from (hI148 0 72).1)
            refine gv_run 5 true hD (pc' := 106) (lv' := [(2, .inl ((I148 0 74) - 1)), (0, .inr (.inr (some 0))), (1, .inl a1)]) (st' := [.inl (I148 0 72), .inl ((I148 0 74) - 1), .inr (.inr (some 74))]) (h' := gr_h I148 J) (C := (((((True ∧ True) ∧ True) ∧ True) ∧ True) ∧ True)) rfl ⟨⟨⟨⟨⟨trivial, trivial⟩, trivial⟩, trivial⟩, trivial⟩, trivial⟩ ?_
            refine gv_run 1 true hD (pc' := 107) (lv' := [(2, .inl ((I148 0 74) - 1)), (0, .inr (.inr (some 0))), (1, .inl a1)]) (st' := []) (h' := gz_up (gr_h I148 J) 74 (Int.toNat (((I148 0 74) - 1))) (.inl (I148 0 72))) (C := (True ∧ (0 ≤ (((I148 0 74) - 1)) ∧ (((I148 0 74) - 1)) < ((4 : Nat) : Int)))) rfl ⟨trivial, ⟨by omega, by omega⟩⟩ ?_
            refine gr_st hI148 FI148 rfl rfl ⟨⟨by show (-1) ≤ _; omega, by show _ ≤ 1000; omega⟩, trivial⟩ (fun I177 hI177 FI177 q178 p178 => ?_)
            have t179 := p178 0 71 (fun q => absurd q.1 (by decide))
            have t180 := p178 0 72 (fun q => absurd q.1 (by decide))
            have t181 := p178 0 73 (fun q => absurd q.1 (by decide))
            have t182 := p178 0 69 (fun q => absurd q.1 (by decide))
            have t183 := p178 0 59 (fun q => absurd q.1 (by decide))
            have t184 := p178 0 6 (fun q => absurd q.1 (by decide))
            have t185 := p178 0 118 (fun q => absurd q.1 (by decide))
            have t186 := p178 0 119 (fun q => absurd q.1 (by decide))
            have t187 := p178 0 74 (fun q => absurd q.1 (by decide))
            have f188 := (show 0 ≤ I177 0 71 ∧ I177 0 71 ≤ 5 from (hI177 0 71).1)
            have f189 := (show 0 ≤ I177 0 72 ∧ I177 0 72 ≤ 1000 from (hI177 0 72).1)
            have f190 := (show 0 ≤ I177 0 73 ∧ I177 0 73 ≤ 1001 from (hI177 0 73).1)
            have f191 := (show 0 ≤ I177 0 69 ∧ I177 0 69 ≤ 1000 from (hI177 0 69).1)
            have f192 := (show 0 ≤ I177 0 59 ∧ I177 0 59 ≤ 2000 from (hI177 0 59).1)
            have f193 := (show (-1) ≤ I177 0 6 ∧ I177 0 6 ≤ 7 from (hI177 0 6).1)
            have f194 := (show 0 ≤ I177 0 118 ∧ I177 0 118 ≤ 6 from (hI177 0 118).1)
            have f195 := (show 0 ≤ I177 0 119 ∧ I177 0 119 ≤ 6 from (hI177 0 119).1)
            have f196 := (show 0 ≤ I177 0 74 ∧ I177 0 74 ≤ 999999 from (hI177 0 74).1)
            have f197 := (show 0 ≤ I177 0 118 ∧ I177 0 118 ≤ 6 from (hI177 0 118).1)
            refine gv_run 7 true hD (pc' := 118) (lv' := [(2, .inl ((I148 0 74) - 1)), (0, .inr (.inr (some 0))), (1, .inl a1)]) (st' := [.inl ((-1) - ((I148 0 74) - 1)), .inl (I177 0 118), .inr (.inr (some 68))]) (h' := gr_h I177 J) (C := (((((((True ∧ True) ∧ True) ∧ True) ∧ True) ∧ True) ∧ True) ∧ True)) rfl ⟨⟨⟨⟨⟨⟨⟨trivial, trivial⟩, trivial⟩, trivial⟩, trivial⟩, trivial⟩, trivial⟩, trivial⟩ ?_
            refine gv_run 1 true hD (pc' := 119) (lv' := [(2, .inl ((I148 0 74) - 1)), (0, .inr (.inr (some 0))), (1, .inl a1)]) (st' := []) (h' := gz_up (gr_h I177 J) 68 (Int.toNat ((I177 0 118))) (.inl (((-1) - ((I148 0 74) - 1))))) (C := (True ∧ (0 ≤ (I177 0 118) ∧ (I177 0 118) < ((6 : Nat) : Int)))) rfl ⟨trivial, ⟨by omega, by omega⟩⟩ ?_
            refine gr_st hI177 FI177 rfl rfl ⟨⟨by show (-4) ≤ _; omega, by show _ ≤ 32015; omega⟩, trivial⟩ (fun I198 hI198 FI198 q199 p199 => ?_)
            have t200 := p199 0 71 (fun q => absurd q.1 (by decide))
            have t201 := p199 0 72 (fun q => absurd q.1 (by decide))
            have t202 := p199 0 73 (fun q => absurd q.1 (by decide))
            have t203 := p199 0 69 (fun q => absurd q.1 (by decide))
            have t204 := p199 0 59 (fun q => absurd q.1 (by decide))
            have t205 := p199 0 6 (fun q => absurd q.1 (by decide))
            have t206 := p199 0 118 (fun q => absurd q.1 (by decide))
            have t207 := p199 0 119 (fun q => absurd q.1 (by decide))
            have t208 := p199 0 74 (fun q => absurd q.1 (by decide))
            have f209 := (show 0 ≤ I198 0 71 ∧ I198 0 71 ≤ 5 from (hI198 0 71).1)
            have f210 := (show 0 ≤ I198 0 72 ∧ I198 0 72 ≤ 1000 from (hI198 0 72).1)
            have f211 := (show 0 ≤ I198 0 73 ∧ I198 0 73 ≤ 1001 from (hI198 0 73).1)
            have f212 := (show 0 ≤ I198 0 69 ∧ I198 0 69 ≤ 1000 from (hI198 0 69).1)
            have f213 := (show 0 ≤ I198 0 59 ∧ I198 0 59 ≤ 2000 from (hI198 0 59).1)
            have f214 := (show (-1) ≤ I198 0 6 ∧ I198 0 6 ≤ 7 from (hI198 0 6).1)
            have f215 := (show 0 ≤ I198 0 118 ∧ I198 0 118 ≤ 6 from (hI198 0 118).1)
            have f216 := (show 0 ≤ I198 0 119 ∧ I198 0 119 ≤ 6 from (hI198 0 119).1)
            have f217 := (show 0 ≤ I198 0 74 ∧ I198 0 74 ≤ 999999 from (hI198 0 74).1)
            refine gv_run 1 true hD (pc' := 120) (lv' := [(2, .inl ((I148 0 74) - 1)), (0, .inr (.inr (some 0))), (1, .inl a1)]) (st' := [.inr (.inr (some 0))]) (h' := gr_h I198 J) (C := (True ∧ True)) rfl ⟨trivial, trivial⟩ ?_
            obtain ⟨r218, h218, E218, P218⟩ := r_next (ws0 := ws0) (tb := tb) hws htb ext I198 J hI198   (by omega)
            obtain ⟨I219, J220, rfl, hI219, g218, k218, ⟨rfl, q218⟩⟩ := P218
            have FI219 := gr_frt FI198 g218 rfl rfl
            have FJ220 := gr_fjt FJ k218 rfl rfl
            have t221 := g218 0 69 rfl
            have t222 := g218 0 59 rfl
            have t223 := g218 0 6 rfl
            have t224 := g218 0 118 rfl
            have t225 := g218 0 119 rfl
            have f226 := (show 0 ≤ I219 0 71 ∧ I219 0 71 ≤ 5 from (hI219 0 71).1)
            have f227 := (show 0 ≤ I219 0 72 ∧ I219 0 72 ≤ 1000 from (hI219 0 72).1)
            have f228 := (show 0 ≤ I219 0 73 ∧ I219 0 73 ≤ 1001 from (hI219 0 73).1)
            have f229 := (show 0 ≤ I219 0 69 ∧ I219 0 69 ≤ 1000 from (hI219 0 69).1)
            have f230 := (show 0 ≤ I219 0 59 ∧ I219 0 59 ≤ 2000 from (hI219 0 59).1)
            have f231 := (show (-1) ≤ I219 0 6 ∧ I219 0 6 ≤ 7 from (hI219 0 6).1)
            have f232 := (show 0 ≤ I219 0 118 ∧ I219 0 118 ≤ 6 from (hI219 0 118).1)
            have f233 := (show 0 ≤ I219 0 119 ∧ I219 0 119 ≤ 6 from (hI219 0 119).1)
            have f234 := (show 0 ≤ I219 0 74 ∧ I219 0 74 ≤ 999999 from (hI219 0 74).1)
            refine gv_callV hD rfl (As := []) (st := []) rfl (by decide) rfl rfl (gr_lV hws rfl) (Nat.le_of_ble_eq_true rfl) (gz_Ev_mono (d := 10) (by decide) E218) ?_
            show gv_X _ _ (123, [(2, .inl ((I148 0 74) - 1)), (0, .inr (.inr (some 0))), (1, .inl a1)], [], gr_sh ++ ext, gr_h I219 J220)
            refine gv_run 2 true hD (pc' := 126) (lv' := [(2, .inl ((I148 0 74) - 1)), (0, .inr (.inr (some 0))), (1, .inl a1)]) (st' := [.inl 91, .inr (.inr (some 0))]) (h' := gr_h I219 J220) (C := ((True ∧ True) ∧ True)) rfl ⟨⟨trivial, trivial⟩, trivial⟩ ?_
            obtain ⟨r235, h235, E235, P235⟩ := r_sign (ws0 := ws0) (tb := tb) hws htb ext I219 J220 hI219 91 ⟨by omega, by omega⟩ (by omega)
            obtain ⟨rfl, ⟨z235, rfl, q235⟩⟩ := P235
            refine gv_callV hD rfl (As := [.inl 91]) (st := []) rfl (by decide) rfl rfl (gr_lV hws rfl) (Nat.le_of_ble_eq_true rfl) (gz_Ev_mono (d := 1) (by decide) E235) ?_
            show gv_X _ _ (129, [(2, .inl ((I148 0 74) - 1)), (0, .inr (.inr (some 0))), (1, .inl a1)], [.inl z235], gr_sh ++ ext, gr_h I219 J220)
            refine gv_if_eq (t := 173) hD rfl rfl ⟨by omega, by omega⟩ (fun c236 => ?_) (fun c236 => ?_)
            · refine gv_pick [1] rfl ?_
              exact L173 I219 J220 hI219 FI219 FJ220 (by omega) (gr_R1u_fr (gr_R1_a (gr_R1_fr x8 (fun k => p149 68 k (fun q => absurd q.1 (by decide))) (fun k => p149 74 k (fun q => absurd q.1 (by decide))) (fun k => p149 6 k (fun q => absurd q.1 (by decide))) (fun k => p149 70 k (fun q => absurd q.1 (by decide))) (fun k => p149 71 k (fun q => absurd q.1 (by decide))) (p149 0 118 (by decide)) (p149 0 119 (by decide))) p178 (by omega) p199 (by omega) (by rw [q199]; omega) (by omega) (by omega) (by omega) (by omega)) (fun k => g218 68 k rfl) (fun k => g218 74 k rfl) (fun k => g218 6 k rfl) (fun k => g218 70 k rfl) (fun k => g218 71 k rfl) (g218 0 118 rfl) (g218 0 119 rfl))
            · refine gv_run 1 true hD (pc' := 133) (lv' := [(2, .inl ((I148 0 74) - 1)), (0, .inr (.inr (some 0))), (1, .inl a1)]) (st' := [.inr (.inr (some 0))]) (h' := gr_h I219 J220) (C := (True ∧ True)) rfl ⟨trivial, trivial⟩ ?_
              obtain ⟨r237, h237, E237, P237⟩ := r_next (ws0 := ws0) (tb := tb) hws htb ext I219 J220 hI219   (by omega)
              obtain ⟨I238, J239, rfl, hI238, g237, k237, ⟨rfl, q237⟩⟩ := P237
              have FI238 := gr_frt FI219 g237 rfl rfl
              have FJ239 := gr_fjt FJ220 k237 rfl rfl
              have t240 := g237 0 69 rfl
              have t241 := g237 0 59 rfl
              have t242 := g237 0 6 rfl
              have t243 := g237 0 118 rfl
              have t244 := g237 0 119 rfl
              have f245 := (show 0 ≤ I238 0 71 ∧ I238 0 71 ≤ 5 from (hI238 0 71).1)
              have f246 := (show 0 ≤ I238 0 72 ∧ I238 0 72 ≤ 1000 from (hI238 0 72).1)
              have f247 := (show 0 ≤ I238 0 73 ∧ I238 0 73 ≤ 1001 from (hI238 0 73).1)
              have f248 := (show 0 ≤ I238 0 69 ∧ I238 0 69 ≤ 1000 from (hI238 0 69).1)
              have f249 := (show 0 ≤ I238 0 59 ∧ I238 0 59 ≤ 2000 from (hI238 0 59).1)
              have f250 := (show (-1) ≤ I238 0 6 ∧ I238 0 6 ≤ 7 from (hI238 0 6).1)
              have f251 := (show 0 ≤ I238 0 118 ∧ I238 0 118 ≤ 6 from (hI238 0 118).1)
              have f252 := (show 0 ≤ I238 0 119 ∧ I238 0 119 ≤ 6 from (hI238 0 119).1)
              have f253 := (show 0 ≤ I238 0 74 ∧ I238 0 74 ≤ 999999 from (hI238 0 74).1)
              refine gv_callV hD rfl (As := []) (st := []) rfl (by decide) rfl rfl (gr_lV hws rfl) (Nat.le_of_ble_eq_true rfl) (gz_Ev_mono (d := 10) (by decide) E237) ?_
              show gv_X _ _ (136, [(2, .inl ((I148 0 74) - 1)), (0, .inr (.inr (some 0))), (1, .inl a1)], [], gr_sh ++ ext, gr_h I238 J239)
              refine gv_run 1 true hD (pc' := 137) (lv' := [(2, .inl ((I148 0 74) - 1)), (0, .inr (.inr (some 0))), (1, .inl a1)]) (st' := [.inr (.inr (some 0))]) (h' := gr_h I238 J239) (C := (True ∧ True)) rfl ⟨trivial, trivial⟩ ?_
              obtain ⟨r254, h254, E254, P254⟩ := r_name (ws0 := ws0) (tb := tb) hws htb ext I238 J239 hI238   
              obtain ⟨I255, J256, rfl, hI255, g254, k254, ⟨z254, rfl, q254⟩⟩ := P254
              have FI255 := gr_frt FI238 g254 rfl rfl
              have FJ256 := gr_fjt FJ239 k254 rfl rfl
              have t257 := g254 0 71 rfl
              have t258 := g254 0 72 rfl
              have t259 := g254 0 73 rfl
              have t260 := g254 0 69 rfl
              have t261 := g254 0 59 rfl
              have t262 := g254 0 6 rfl
              have t263 := g254 0 118 rfl
              have t264 := g254 0 119 rfl
              have t265 := g254 0 74 rfl
              have f266 := (show 0 ≤ I255 0 71 ∧ I255 0 71 ≤ 5 from (hI255 0 71).1)
              have f267 := (show 0 ≤ I255 0 72 ∧ I255 0 72 ≤ 1000 from (hI255 0 72).1)
              have f268 := (show 0 ≤ I255 0 73 ∧ I255 0 73 ≤ 1001 from (hI255 0 73).1)
              have f269 := (show 0 ≤ I255 0 69 ∧ I255 0 69 ≤ 1000 from (hI255 0 69).1)
              have f270 := (show 0 ≤ I255 0 59 ∧ I255 0 59 ≤ 2000 from (hI255 0 59).1)
              have f271 := (show (-1) ≤ I255 0 6 ∧ I255 0 6 ≤ 7 from (hI255 0 6).1)
              have f272 := (show 0 ≤ I255 0 118 ∧ I255 0 118 ≤ 6 from (hI255 0 118).1)
              have f273 := (show 0 ≤ I255 0 119 ∧ I255 0 119 ≤ 6 from (hI255 0 119).1)
              have f274 := (show 0 ≤ I255 0 74 ∧ I255 0 74 ≤ 999999 from (hI255 0 74).1)
              refine gv_callV hD rfl (As := []) (st := []) rfl (by decide) rfl rfl (gr_lV hws rfl) (Nat.le_of_ble_eq_true rfl) (gz_Ev_mono (d := 3) (by decide) E254) ?_
              show gv_X _ _ (140, [(2, .inl ((I148 0 74) - 1)), (0, .inr (.inr (some 0))), (1, .inl a1)], [.inl z254], gr_sh ++ ext, gr_h I255 J256)
              refine gv_if_ne (t := 145) hD rfl rfl ⟨by omega, by omega⟩ (fun c275 => ?_) (fun c275 => ?_)
              · refine gv_pick [1] rfl ?_
                exact L145 _ I255 J256 (Nat.lt_succ_self _) hI255 FI255 FJ256 (by omega) (gr_R1u_fr (gr_R1u_fr (gr_R1u_fr (gr_R1_a (gr_R1_fr x8 (fun k => p149 68 k (fun q => absurd q.1 (by decide))) (fun k => p149 74 k (fun q => absurd q.1 (by decide))) (fun k => p149 6 k (fun q => absurd q.1 (by decide))) (fun k => p149 70 k (fun q => absurd q.1 (by decide))) (fun k => p149 71 k (fun q => absurd q.1 (by decide))) (p149 0 118 (by decide)) (p149 0 119 (by decide))) p178 (by omega) p199 (by omega) (by rw [q199]; omega) (by omega) (by omega) (by omega) (by omega)) (fun k => g218 68 k rfl) (fun k => g218 74 k rfl) (fun k => g218 6 k rfl) (fun k => g218 70 k rfl) (fun k => g218 71 k rfl) (g218 0 118 rfl) (g218 0 119 rfl)) (fun k => g237 68 k rfl) (fun k => g237 74 k rfl) (fun k => g237 6 k rfl) (fun k => g237 70 k rfl) (fun k => g237 71 k rfl) (g237 0 118 rfl) (g237 0 119 rfl)) (fun k => g254 68 k rfl) (fun k => g254 74 k rfl) (fun k => g254 6 k rfl) (fun k => g254 70 k rfl) (fun k => g254 71 k rfl) (g254 0 118 rfl) (g254 0 119 rfl))
              · refine gv_run 1 true hD (pc' := 144) (lv' := [(2, .inl ((I148 0 74) - 1)), (0, .inr (.inr (some 0))), (1, .inl a1)]) (st' := [.inl 0]) (h' := gr_h I255 J256) (C := (True ∧ True)) rfl ⟨trivial, trivial⟩ ?_
                exact gv_zret hD rfl (by omega) ⟨I255, J256, rfl, hI255, FI255, FJ256, ⟨_, rfl, by omega, by omega, by omega, by omega, by omega, by omega, by omega, by omega, by omega, by omega, by omega, by omega, (gr_o_a (by omega))⟩⟩
          · refine gv_pick [1] rfl ?_
            exact L91 I148 J hI148 FI148 FJ (by omega)
    · refine gv_run 1 true hD (pc' := 29) (lv' := [(0, .inr (.inr (some 0))), (1, .inl a1)]) (st' := [.inr (.inr (some 0))]) (h' := gr_h I148 J) (C := (True ∧ True)) rfl ⟨trivial, trivial⟩ ?_
      obtain ⟨r276, h276, E276, P276⟩ := r_size (ws0 := ws0) (tb := tb) hws htb ext I148 J hI148   
      obtain ⟨rfl, ⟨z276, rfl, q276⟩⟩ := P276
      refine gv_callV hD rfl (As := []) (st := []) rfl (by decide) rfl rfl (gr_lV hws rfl) (Nat.le_of_ble_eq_true rfl) (gz_Ev_mono (d := 1) (by decide) E276) ?_
      show gv_X _ _ (32, [(0, .inr (.inr (some 0))), (1, .inl a1)], [.inl z276], gr_sh ++ ext, gr_h I148 J)
      refine gv_if_ne (t := 41) hD rfl rfl ⟨by omega, by omega⟩ (fun c277 => ?_) (fun c277 => ?_)
      · have f278 := (show 0 ≤ I148 0 118 ∧ I148 0 118 ≤ 6 from (hI148 0 118).1)
        refine gv_run 5 true hD (pc' := 50) (lv' := [(0, .inr (.inr (some 0))), (1, .inl a1)]) (st' := [.inr (.inr (some 0)), .inl (I148 0 118), .inr (.inr (some 68))]) (h' := gr_h I148 J) (C := (((((True ∧ True) ∧ True) ∧ True) ∧ True) ∧ True)) rfl ⟨⟨⟨⟨⟨trivial, trivial⟩, trivial⟩, trivial⟩, trivial⟩, trivial⟩ ?_
        obtain ⟨r279, h279, E279, P279⟩ := r_keeps (ws0 := ws0) (tb := tb) hws htb ext I148 J hI148   (by omega) (by omega) (by omega) (by omega)
        obtain ⟨I280, J281, rfl, hI280, g279, k279, ⟨z279, rfl, q279⟩⟩ := P279
        have FI280 := gr_frt FI148 g279 rfl rfl
        have FJ281 := gr_fjt FJ k279 rfl rfl
        have t282 := g279 0 71 rfl
        have t283 := g279 0 72 rfl
        have t284 := g279 0 73 rfl
        have t285 := g279 0 69 rfl
        have t286 := g279 0 6 rfl
        have t287 := g279 0 118 rfl
        have t288 := g279 0 119 rfl
        have t289 := g279 0 74 rfl
        have f290 := (show 0 ≤ I280 0 71 ∧ I280 0 71 ≤ 5 from (hI280 0 71).1)
        have f291 := (show 0 ≤ I280 0 72 ∧ I280 0 72 ≤ 1000 from (hI280 0 72).1)
        have f292 := (show 0 ≤ I280 0 73 ∧ I280 0 73 ≤ 1001 from (hI280 0 73).1)
        have f293 := (show 0 ≤ I280 0 69 ∧ I280 0 69 ≤ 1000 from (hI280 0 69).1)
        have f294 := (show 0 ≤ I280 0 59 ∧ I280 0 59 ≤ 2000 from (hI280 0 59).1)
        have f295 := (show (-1) ≤ I280 0 6 ∧ I280 0 6 ≤ 7 from (hI280 0 6).1)
        have f296 := (show 0 ≤ I280 0 118 ∧ I280 0 118 ≤ 6 from (hI280 0 118).1)
        have f297 := (show 0 ≤ I280 0 119 ∧ I280 0 119 ≤ 6 from (hI280 0 119).1)
        have f298 := (show 0 ≤ I280 0 74 ∧ I280 0 74 ≤ 999999 from (hI280 0 74).1)
        refine gv_callV hD rfl (As := []) (st := [.inl (I148 0 118), .inr (.inr (some 68))]) rfl (by decide) rfl rfl (gr_lV hws rfl) (Nat.le_of_ble_eq_true rfl) (gz_Ev_mono (d := 2) (by decide) E279) ?_
        show gv_X _ _ (53, [(0, .inr (.inr (some 0))), (1, .inl a1)], [.inl z279, .inl (I148 0 118), .inr (.inr (some 68))], gr_sh ++ ext, gr_h I280 J281)
        refine gv_run 1 true hD (pc' := 54) (lv' := [(0, .inr (.inr (some 0))), (1, .inl a1)]) (st' := []) (h' := gz_up (gr_h I280 J281) 68 (Int.toNat ((I148 0 118))) (.inl z279)) (C := (True ∧ (0 ≤ (I148 0 118) ∧ (I148 0 118) < ((6 : Nat) : Int)))) rfl ⟨trivial, ⟨by omega, by omega⟩⟩ ?_
        refine gr_st hI280 FI280 rfl rfl ⟨⟨by show (-4) ≤ _; omega, by show _ ≤ 32015; omega⟩, trivial⟩ (fun I299 hI299 FI299 q300 p300 => ?_)
        have t301 := p300 0 71 (fun q => absurd q.1 (by decide))
        have t302 := p300 0 72 (fun q => absurd q.1 (by decide))
        have t303 := p300 0 73 (fun q => absurd q.1 (by decide))
        have t304 := p300 0 69 (fun q => absurd q.1 (by decide))
        have t305 := p300 0 59 (fun q => absurd q.1 (by decide))
        have t306 := p300 0 6 (fun q => absurd q.1 (by decide))
        have t307 := p300 0 118 (fun q => absurd q.1 (by decide))
        have t308 := p300 0 119 (fun q => absurd q.1 (by decide))
        have t309 := p300 0 74 (fun q => absurd q.1 (by decide))
        have f310 := (show 0 ≤ I299 0 71 ∧ I299 0 71 ≤ 5 from (hI299 0 71).1)
        have f311 := (show 0 ≤ I299 0 72 ∧ I299 0 72 ≤ 1000 from (hI299 0 72).1)
        have f312 := (show 0 ≤ I299 0 73 ∧ I299 0 73 ≤ 1001 from (hI299 0 73).1)
        have f313 := (show 0 ≤ I299 0 69 ∧ I299 0 69 ≤ 1000 from (hI299 0 69).1)
        have f314 := (show 0 ≤ I299 0 59 ∧ I299 0 59 ≤ 2000 from (hI299 0 59).1)
        have f315 := (show (-1) ≤ I299 0 6 ∧ I299 0 6 ≤ 7 from (hI299 0 6).1)
        have f316 := (show 0 ≤ I299 0 118 ∧ I299 0 118 ≤ 6 from (hI299 0 118).1)
        have f317 := (show 0 ≤ I299 0 119 ∧ I299 0 119 ≤ 6 from (hI299 0 119).1)
        have f318 := (show 0 ≤ I299 0 74 ∧ I299 0 74 ≤ 999999 from (hI299 0 74).1)
        refine gv_run 1 true hD (pc' := 55) (lv' := [(0, .inr (.inr (some 0))), (1, .inl a1)]) (st' := [.inr (.inr (some 0))]) (h' := gr_h I299 J281) (C := (True ∧ True)) rfl ⟨trivial, trivial⟩ ?_
        obtain ⟨r319, h319, E319, P319⟩ := r_next (ws0 := ws0) (tb := tb) hws htb ext I299 J281 hI299   (by omega)
        obtain ⟨I320, J321, rfl, hI320, g319, k319, ⟨rfl, q319⟩⟩ := P319
        have FI320 := gr_frt FI299 g319 rfl rfl
        have FJ321 := gr_fjt FJ281 k319 rfl rfl
        have t322 := g319 0 69 rfl
        have t323 := g319 0 59 rfl
        have t324 := g319 0 6 rfl
        have t325 := g319 0 118 rfl
        have t326 := g319 0 119 rfl
        have f327 := (show 0 ≤ I320 0 71 ∧ I320 0 71 ≤ 5 from (hI320 0 71).1)
        have f328 := (show 0 ≤ I320 0 72 ∧ I320 0 72 ≤ 1000 from (hI320 0 72).1)
        have f329 := (show 0 ≤ I320 0 73 ∧ I320 0 73 ≤ 1001 from (hI320 0 73).1)
        have f330 := (show 0 ≤ I320 0 69 ∧ I320 0 69 ≤ 1000 from (hI320 0 69).1)
        have f331 := (show 0 ≤ I320 0 59 ∧ I320 0 59 ≤ 2000 from (hI320 0 59).1)
        have f332 := (show (-1) ≤ I320 0 6 ∧ I320 0 6 ≤ 7 from (hI320 0 6).1)
        have f333 := (show 0 ≤ I320 0 118 ∧ I320 0 118 ≤ 6 from (hI320 0 118).1)
        have f334 := (show 0 ≤ I320 0 119 ∧ I320 0 119 ≤ 6 from (hI320 0 119).1)
        have f335 := (show 0 ≤ I320 0 74 ∧ I320 0 74 ≤ 999999 from (hI320 0 74).1)
        refine gv_callV hD rfl (As := []) (st := []) rfl (by decide) rfl rfl (gr_lV hws rfl) (Nat.le_of_ble_eq_true rfl) (gz_Ev_mono (d := 10) (by decide) E319) ?_
        show gv_X _ _ (58, [(0, .inr (.inr (some 0))), (1, .inl a1)], [], gr_sh ++ ext, gr_h I320 J321)
        refine gv_run 1 true hD (pc' := 173) (lv' := [(0, .inr (.inr (some 0))), (1, .inl a1)]) (st' := []) (h' := gr_h I320 J321) (C := (True ∧ True)) rfl ⟨trivial, trivial⟩ ?_
        refine gv_pick [0] rfl ?_
        exact L173 I320 J321 hI320 FI320 FJ321 (by omega) (gr_R1u_fr (gr_R1_t (gr_R1_fr (gr_R1_fr x8 (fun k => p149 68 k (fun q => absurd q.1 (by decide))) (fun k => p149 74 k (fun q => absurd q.1 (by decide))) (fun k => p149 6 k (fun q => absurd q.1 (by decide))) (fun k => p149 70 k (fun q => absurd q.1 (by decide))) (fun k => p149 71 k (fun q => absurd q.1 (by decide))) (p149 0 118 (by decide)) (p149 0 119 (by decide))) (fun k => g279 68 k rfl) (fun k => g279 74 k rfl) (fun k => g279 6 k rfl) (fun k => g279 70 k rfl) (fun k => g279 71 k rfl) (g279 0 118 rfl) (g279 0 119 rfl)) p300 (by omega) (by omega) (by omega)) (fun k => g319 68 k rfl) (fun k => g319 74 k rfl) (fun k => g319 6 k rfl) (fun k => g319 70 k rfl) (fun k => g319 71 k rfl) (g319 0 118 rfl) (g319 0 119 rfl))
      · refine gv_run 2 true hD (pc' := 37) (lv' := [(0, .inr (.inr (some 0))), (1, .inl a1)]) (st' := [.inl 5, .inr (.inr (some 0))]) (h' := gr_h I148 J) (C := ((True ∧ True) ∧ True)) rfl ⟨⟨trivial, trivial⟩, trivial⟩ ?_
        obtain ⟨r336, h336, E336, P336⟩ := r_no_ (ws0 := ws0) (tb := tb) hws htb ext I148 J hI148 5 ⟨by omega, by omega⟩ 
        obtain ⟨I337, J338, rfl, hI337, g336, k336, ⟨z336, rfl, q336⟩⟩ := P336
        have FI337 := gr_frt FI148 g336 rfl rfl
        have FJ338 := gr_fjt FJ k336 rfl rfl
        have t339 := g336 0 71 rfl
        have t340 := g336 0 72 rfl
        have t341 := g336 0 73 rfl
        have t342 := g336 0 69 rfl
        have t343 := g336 0 59 rfl
        have t344 := g336 0 6 rfl
        have t345 := g336 0 118 rfl
        have t346 := g336 0 119 rfl
        have t347 := g336 0 74 rfl
        have f348 := (show 0 ≤ I337 0 71 ∧ I337 0 71 ≤ 5 from (hI337 0 71).1)
        have f349 := (show 0 ≤ I337 0 72 ∧ I337 0 72 ≤ 1000 from (hI337 0 72).1)
        have f350 := (show 0 ≤ I337 0 73 ∧ I337 0 73 ≤ 1001 from (hI337 0 73).1)
        have f351 := (show 0 ≤ I337 0 69 ∧ I337 0 69 ≤ 1000 from (hI337 0 69).1)
        have f352 := (show 0 ≤ I337 0 59 ∧ I337 0 59 ≤ 2000 from (hI337 0 59).1)
        have f353 := (show (-1) ≤ I337 0 6 ∧ I337 0 6 ≤ 7 from (hI337 0 6).1)
        have f354 := (show 0 ≤ I337 0 118 ∧ I337 0 118 ≤ 6 from (hI337 0 118).1)
        have f355 := (show 0 ≤ I337 0 119 ∧ I337 0 119 ≤ 6 from (hI337 0 119).1)
        have f356 := (show 0 ≤ I337 0 74 ∧ I337 0 74 ≤ 999999 from (hI337 0 74).1)
        refine gv_callV hD rfl (As := [.inl 5]) (st := []) rfl (by decide) rfl rfl (gr_lV hws rfl) (Nat.le_of_ble_eq_true rfl) (gz_Ev_mono (d := 2) (by decide) E336) ?_
        show gv_X _ _ (40, [(0, .inr (.inr (some 0))), (1, .inl a1)], [.inl z336], gr_sh ++ ext, gr_h I337 J338)
        exact gv_zret hD rfl (by omega) ⟨I337, J338, rfl, hI337, FI337, FJ338, ⟨_, rfl, by omega, by omega, by omega, by omega, by omega, by omega, by omega, by omega, by omega, by omega, by omega, by omega, (gr_o_a (by omega))⟩⟩
  · refine gv_run 2 true hD (pc' := 11) (lv' := [(0, .inr (.inr (some 0))), (1, .inl a1)]) (st' := [.inl 5, .inr (.inr (some 0))]) (h' := gr_h I J) (C := ((True ∧ True) ∧ True)) rfl ⟨⟨trivial, trivial⟩, trivial⟩ ?_
    obtain ⟨r357, h357, E357, P357⟩ := r_no_ (ws0 := ws0) (tb := tb) hws htb ext I J hI 5 ⟨by omega, by omega⟩ 
    obtain ⟨I358, J359, rfl, hI358, g357, k357, ⟨z357, rfl, q357⟩⟩ := P357
    have FI358 := gr_frt FI g357 rfl rfl
    have FJ359 := gr_fjt FJ k357 rfl rfl
    have t360 := g357 0 71 rfl
    have t361 := g357 0 72 rfl
    have t362 := g357 0 73 rfl
    have t363 := g357 0 69 rfl
    have t364 := g357 0 59 rfl
    have t365 := g357 0 6 rfl
    have t366 := g357 0 118 rfl
    have t367 := g357 0 119 rfl
    have t368 := g357 0 74 rfl
    have f369 := (show 0 ≤ I358 0 71 ∧ I358 0 71 ≤ 5 from (hI358 0 71).1)
    have f370 := (show 0 ≤ I358 0 72 ∧ I358 0 72 ≤ 1000 from (hI358 0 72).1)
    have f371 := (show 0 ≤ I358 0 73 ∧ I358 0 73 ≤ 1001 from (hI358 0 73).1)
    have f372 := (show 0 ≤ I358 0 69 ∧ I358 0 69 ≤ 1000 from (hI358 0 69).1)
    have f373 := (show 0 ≤ I358 0 59 ∧ I358 0 59 ≤ 2000 from (hI358 0 59).1)
    have f374 := (show (-1) ≤ I358 0 6 ∧ I358 0 6 ≤ 7 from (hI358 0 6).1)
    have f375 := (show 0 ≤ I358 0 118 ∧ I358 0 118 ≤ 6 from (hI358 0 118).1)
    have f376 := (show 0 ≤ I358 0 119 ∧ I358 0 119 ≤ 6 from (hI358 0 119).1)
    have f377 := (show 0 ≤ I358 0 74 ∧ I358 0 74 ≤ 999999 from (hI358 0 74).1)
    refine gv_callV hD rfl (As := [.inl 5]) (st := []) rfl (by decide) rfl rfl (gr_lV hws rfl) (Nat.le_of_ble_eq_true rfl) (gz_Ev_mono (d := 2) (by decide) E357) ?_
    show gv_X _ _ (14, [(0, .inr (.inr (some 0))), (1, .inl a1)], [.inl z357], gr_sh ++ ext, gr_h I358 J359)
    exact gv_zret hD rfl (by omega) ⟨I358, J359, rfl, hI358, FI358, FJ359, ⟨_, rfl, by omega, by omega, by omega, by omega, by omega, by omega, by omega, by omega, by omega, by omega, by omega, by omega, (gr_o_a (by omega))⟩⟩
