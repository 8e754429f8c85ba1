/-! TERMS: whose a node is (ghost row 55, at n), how many binders it stands under (at 5000 + n). -/
def gr_TO (I : gr_I) : Prop := ∀ n : Nat, (n : Int) < I 0 64 → (0 ≤ I 55 n ∧ I 55 n < I 0 3) ∧ (I 52 n = 3 → I 53 n < I 6 (Int.toNat (I 55 n))) ∧ (I 52 n = 1 → I 53 n < I 55 (5000 + n)) ∧ (I 52 n = 0 → I 55 (Int.toNat (I 53 n)) = I 55 n ∧ I 55 (5000 + Int.toNat (I 53 n)) ≤ I 55 (5000 + n) + 1) ∧ (I 52 n = 4 → (I 55 (Int.toNat (I 53 n)) = I 55 n ∧ I 55 (5000 + Int.toNat (I 53 n)) ≤ I 55 (5000 + n)) ∧ (I 55 (Int.toNat (I 54 n)) = I 55 n ∧ I 55 (5000 + Int.toNat (I 54 n)) ≤ I 55 (5000 + n)))
set_option maxHeartbeats 8000000 in
theorem gr_TO_x {I I' : gr_I} (h : gr_TO I) (h1 : ∀ k, I' 52 k = I 52 k) (h2 : ∀ k, I' 53 k = I 53 k) (h3 : ∀ k, I' 54 k = I 54 k) (h4 : ∀ k, I' 55 k = I 55 k) (h5 : ∀ f : Nat, (f : Int) < I 0 3 → I' 6 f = I 6 f) (h6 : I 0 3 ≤ I' 0 3) (h7 : I' 0 64 ≤ I 0 64) : gr_TO I' := fun n hn => by
  obtain ⟨a, b, c⟩ := h n (by exact gz_m 0 (by omega))
  rw [h1, h2, h3]
  simp only [h4]
  rw [h5 _ (by exact gz_m 1 (by omega))]
  exact ⟨⟨a.1, by exact gz_m 2 (by omega)⟩, b, c⟩
theorem gr_TO_fr {I I' : gr_I} (h : gr_TO I) (h1 : ∀ k, I' 52 k = I 52 k) (h2 : ∀ k, I' 53 k = I 53 k) (h3 : ∀ k, I' 54 k = I 54 k) (h4 : ∀ k, I' 55 k = I 55 k) (h5 : ∀ k, I' 6 k = I 6 k) (h7 : I' 0 64 = I 0 64) (h6 : I' 0 3 = I 0 3) : gr_TO I' := gr_TO_x h h1 h2 h3 h4 (fun f _ => h5 f) (by omega) (by omega)
def gr_NDp (k a b : Int) (I : gr_I) : Prop := (k = 3 → a < I 6 (Int.toNat (I 0 123))) ∧ (k = 1 → a < I 0 122) ∧ (k = 0 → I 55 (Int.toNat a) = I 0 123 ∧ I 55 (5000 + Int.toNat a) ≤ I 0 122 + 1) ∧ (k = 4 → (I 55 (Int.toNat a) = I 0 123 ∧ I 55 (5000 + Int.toNat a) ≤ I 0 122) ∧ (I 55 (Int.toNat b) = I 0 123 ∧ I 55 (5000 + Int.toNat b) ≤ I 0 122))
def gr_TS9 (I I' : gr_I) : Prop := ∀ n : Nat, (n : Int) < I 0 64 → (I' 55 n = I 55 n ∧ I' 55 (5000 + n) = I 55 (5000 + n)) ∧ I' 52 n = I 52 n ∧ I' 53 n = I 53 n ∧ I' 54 n = I 54 n
theorem gr_TS9_rf (I : gr_I) : gr_TS9 I I := fun _ _ => ⟨⟨rfl, rfl⟩, rfl, rfl, rfl⟩
theorem gr_TS9_tr {I I1 I2 : gr_I} (h : gr_TS9 I I1) (g : gr_TS9 I1 I2) (hn : I 0 64 ≤ I1 0 64) : gr_TS9 I I2 := fun n hq => by
  have a := h n hq
  have b := g n (by omega)
  exact ⟨⟨b.1.1.trans a.1.1, b.1.2.trans a.1.2⟩, b.2.1.trans a.2.1, b.2.2.1.trans a.2.2.1, b.2.2.2.trans a.2.2.2⟩
theorem gr_TS9_fr {I I' : gr_I} (h : ∀ k, I' 55 k = I 55 k) (h1 : ∀ k, I' 52 k = I 52 k) (h2 : ∀ k, I' 53 k = I 53 k) (h3 : ∀ k, I' 54 k = I 54 k) : gr_TS9 I I' := fun n _ => ⟨⟨h _, h _⟩, h1 _, h2 _, h3 _⟩
set_option maxHeartbeats 8000000 in
theorem gr_TO_new {I I' : gr_I} {k a b : Int} {y : Nat} (hy : (y : Int) = I 0 64) (hN : I' 0 64 = I 0 64 + 1) (h2 : I 0 64 ≤ 1999) (h : gr_TO I) (tm : gr_TM I) (hI : gr_Inv I) (nd : gr_NDp k a b I) (ha : 0 ≤ a ∧ a ≤ 1999) (hb : 0 ≤ b ∧ b ≤ 1999) (h0 : k = 0 → a < I 0 64) (h4 : k = 4 → (a < I 0 64 ∧ b < I 0 64)) (hf : 0 ≤ I 0 123 ∧ I 0 123 < I 0 3) (e1 : I' 52 y = k) (e2 : I' 53 y = a) (e3 : I' 54 y = b) (g1 : I' 55 y = I 0 123) (g2 : I' 55 (5000 + y) = I 0 122) (f1 : ∀ z, ¬ z = y → I' 52 z = I 52 z) (f2 : ∀ z, ¬ z = y → I' 53 z = I 53 z) (f3 : ∀ z, ¬ z = y → I' 54 z = I 54 z) (f4 : ∀ z, ¬ z = y → ¬ z = 5000 + y → I' 55 z = I 55 z) (f5 : ∀ z, I' 6 z = I 6 z) (f6 : I' 0 3 = I 0 3) : gr_TO I' ∧ gr_TS9 I I' := by
  refine ⟨fun n hn => ?_, fun n hn => ⟨⟨f4 n (by exact gz_m 0 (by omega)) (by exact gz_m 1 (by omega)), f4 _ (by exact gz_m 2 (by omega)) (by exact gz_m 3 (by omega))⟩, f1 n (by exact gz_m 4 (by omega)), f2 n (by exact gz_m 5 (by omega)), f3 n (by exact gz_m 6 (by omega))⟩⟩
  by_cases c : n = y
  · subst c
    rw [e1, e2, e3, g1, g2, f5, f6]
    refine ⟨hf, nd.1, nd.2.1, fun q => ?_, fun q => ?_⟩
    · have l := h0 q
      rw [f4 _ (by exact gz_m 7 (by omega)) (by exact gz_m 8 (by omega)), f4 _ (by exact gz_m 9 (by omega)) (by exact gz_m 10 (by omega))]
      exact nd.2.2.1 q
    · have l := h4 q
      rw [f4 (Int.toNat a) (by exact gz_m 11 (by omega)) (by exact gz_m 12 (by omega)), f4 (5000 + Int.toNat a) (by exact gz_m 13 (by omega)) (by exact gz_m 14 (by omega)), f4 (Int.toNat b) (by exact gz_m 15 (by omega)) (by exact gz_m 16 (by omega)), f4 (5000 + Int.toNat b) (by exact gz_m 17 (by omega)) (by exact gz_m 18 (by omega))]
      exact nd.2.2.2 q
  · obtain ⟨u, v, w, x, z⟩ := h n (by exact gz_m 19 (by omega))
    have t := tm n (by exact gz_m 20 (by omega))
    have r1 := (gr_b_53 hI n)
    have r2 := (gr_b_54 hI n)
    rw [f1 n c, f2 n c, f3 n c, f4 n c (by exact gz_m 21 (by omega)), f4 (5000 + n) (by exact gz_m 22 (by omega)) (by exact gz_m 23 (by omega)), f5, f6]
    refine ⟨u, v, w, fun q => ?_, fun q => ?_⟩
    · have l := t.1 q
      rw [f4 _ (by exact gz_m 24 (by omega)) (by exact gz_m 25 (by omega)), f4 _ (by exact gz_m 26 (by omega)) (by exact gz_m 27 (by omega))]
      exact x q
    · have l := t.2 q
      rw [f4 (Int.toNat (I 53 n)) (by exact gz_m 28 (by omega)) (by exact gz_m 29 (by omega)), f4 (5000 + Int.toNat (I 53 n)) (by exact gz_m 30 (by omega)) (by exact gz_m 31 (by omega)), f4 (Int.toNat (I 54 n)) (by exact gz_m 32 (by omega)) (by exact gz_m 33 (by omega)), f4 (5000 + Int.toNat (I 54 n)) (by exact gz_m 34 (by omega)) (by exact gz_m 35 (by omega))]
      exact z q
def gr_OWN (t f b : Int) (I : gr_I) : Prop := t < 0 ∨ (I 55 (Int.toNat t) = f ∧ I 55 (5000 + Int.toNat t) ≤ b)
theorem gr_OWN_x {t f b f' b' : Int} {I I' : gr_I} (h : gr_OWN t f b I) (g : gr_TS9 I I') (ht : t < I 0 64) (hf : f = f') (hb : b ≤ b') : gr_OWN t f' b' I' := by
  rcases h with h | h
  · exact Or.inl h
  · by_cases c : t < 0
    · exact Or.inl c
    · have g9 := g (Int.toNat t) (by omega)
      exact Or.inr ⟨by rw [g9.1.1, ← hf]; exact h.1, by rw [g9.1.2]; omega⟩
theorem gr_NDp_0 {a b f d : Int} {I : gr_I} (h : gr_OWN a f d I) (h0 : 0 ≤ a) (hf : f = I 0 123) (hd : d ≤ I 0 122 + 1) : gr_NDp 0 a b I := by
  rcases h with h | h
  · exact gz_m 0 (by omega)
  · exact ⟨fun q => by exact gz_m 1 (by omega), fun q => by exact gz_m 2 (by omega), fun _ => ⟨by exact gz_m 3 (by omega), by exact gz_m 4 (by omega)⟩, fun q => by exact gz_m 5 (by omega)⟩
set_option maxHeartbeats 8000000 in
theorem gr_NDp_4 {a b f d f' d' : Int} {I : gr_I} (h : gr_OWN a f d I) (h' : gr_OWN b f' d' I) (h0 : 0 ≤ a) (h1 : 0 ≤ b) (hf : f = I 0 123) (hd : d ≤ I 0 122) (hf' : f' = I 0 123) (hd' : d' ≤ I 0 122) : gr_NDp 4 a b I := by
  rcases h with h | h
  · exact gz_m 0 (by omega)
  · rcases h' with h' | h'
    · exact gz_m 1 (by omega)
    · exact ⟨fun q => by exact gz_m 2 (by omega), fun q => by exact gz_m 3 (by omega), fun q => by exact gz_m 4 (by omega), fun _ => ⟨⟨by exact gz_m 5 (by omega), by exact gz_m 6 (by omega)⟩, ⟨by exact gz_m 7 (by omega), by exact gz_m 8 (by omega)⟩⟩⟩
theorem gr_NDp_3 {a b : Int} {I : gr_I} (h : a < I 6 (Int.toNat (I 0 123))) : gr_NDp 3 a b I := ⟨fun _ => h, fun q => by exact gz_m 0 (by omega), fun q => by exact gz_m 1 (by omega), fun q => by exact gz_m 2 (by omega)⟩
theorem gr_NDp_2 {a b : Int} {I : gr_I} : gr_NDp 2 a b I := ⟨fun q => by exact gz_m 0 (by omega), fun q => by exact gz_m 1 (by omega), fun q => by exact gz_m 2 (by omega), fun q => by exact gz_m 3 (by omega)⟩
theorem gr_NDp_1 {a b : Int} {I : gr_I} (h : a < I 0 122) : gr_NDp 1 a b I := ⟨fun q => by exact gz_m 0 (by omega), fun _ => h, fun q => by exact gz_m 1 (by omega), fun q => by exact gz_m 2 (by omega)⟩
set_option maxHeartbeats 8000000 in
set_option maxRecDepth 100000 in
theorem r_node_w {ws0 : List Cond} {tb : String → gz_T} (hws : ∀ w ∈ gr_ws, w ∈ ws0) (htb : tb RX13 = gr_T) (ext : gz_Sh) (I : gr_I) (J : gr_J) (hI : gr_Inv I) (a1 : Int) (a2 : Int) (a3 : Int) (a4 : Int64) (ha1 : 0 ≤ a1 ∧ a1 ≤ 4) (ha2 : 0 ≤ a2 ∧ a2 ≤ 1999) (ha3 : 0 ≤ a3 ∧ a3 ≤ 1999) (x0 : I 0 64 ≤ 1999) (x1 : a1 = 0 → a2 < I 0 64) (x2 : a1 = 4 → (a2 < I 0 64 ∧ a3 < I 0 64)) (x3 : gr_TO I) (x4 : gr_NDp a1 a2 a3 I) (x5 : I 0 123 < I 0 3) (KTM_I : gr_TM I) : ∃ r h', gz_Ev ws0 tb 1 (yX13_node, cX13_node, 6, (some .int)) [.inr (.inr (some 0)), .inl a1, .inl a2, .inl a3, .inr (.inl a4)] (gr_sh ++ ext) (gr_h I J) r (gr_sh ++ ext) h' 0 0 ∧ (∃ (I' : gr_I) (J' : gr_J), h' = gr_h I' J' ∧ gr_Inv I' ∧ gr_fr [64] [52, 53, 54, 55] I I' ∧ gr_fj [64] [52, 53, 54, 55] J J' ∧ gr_TM I' ∧ (∃ z : Int, r = some (.inl z) ∧ 0 ≤ z ∧ z ≤ 1999 ∧ (z = I 0 64) ∧ (I' 0 64 = I 0 64 + 1) ∧ (gr_TO I') ∧ (gr_TS9 I I') ∧ (I' 55 (Int.toNat z) = I 0 123) ∧ (I' 55 (5000 + Int.toNat z) = I 0 122))) := by
  have FI : gr_fr [64] [52, 53, 54, 55] I I := fun _ _ _ => rfl
  have FJ : gr_fj [64] [52, 53, 54, 55] J J := fun _ _ _ => rfl
  have hD : gv_D (gr_E ws0 tb 0 (yX13_node, cX13_node, 6, (some .int)) kX13_node) := gq_of oX13_node
  refine gr_ev (d := 0) (l := kX13_node) (Po := fun r h' => (∃ (I' : gr_I) (J' : gr_J), h' = gr_h I' J' ∧ gr_Inv I' ∧ gr_fr [64] [52, 53, 54, 55] I I' ∧ gr_fj [64] [52, 53, 54, 55] J J' ∧ gr_TM I' ∧ (∃ z : Int, r = some (.inl z) ∧ 0 ≤ z ∧ z ≤ 1999 ∧ (z = I 0 64) ∧ (I' 0 64 = I 0 64 + 1) ∧ (gr_TO I') ∧ (gr_TS9 I I') ∧ (I' 55 (Int.toNat z) = I 0 123) ∧ (I' 55 (5000 + Int.toNat z) = I 0 122)))) htb rfl (Nat.le_of_ble_eq_true rfl) ?_
  have f1 := (gr_b_0_64 hI)
  have f2 := (gr_b_0_122 hI)
  have f3 := (gr_b_0_123 hI)
  have f4 := (gr_b_0_3 hI)
  have f5 := (gr_b_0_64 hI)
  refine gv_run 5 true hD (pc' := 9) (lv' := [(0, .inr (.inr (some 0))), (1, .inl a1), (2, .inl a2), (3, .inl a3), (4, .inr (.inl a4))]) (st' := [.inl a1, .inl (I 0 64), .inr (.inr (some 52))]) (h' := gr_h I J) (C := (((((True ∧ True) ∧ True) ∧ True) ∧ True) ∧ True)) rfl ⟨⟨⟨⟨⟨trivial, trivial⟩, trivial⟩, trivial⟩, trivial⟩, trivial⟩ ?_
  refine gv_run 1 true hD (pc' := 10) (lv' := [(0, .inr (.inr (some 0))), (1, .inl a1), (2, .inl a2), (3, .inl a3), (4, .inr (.inl a4))]) (st' := []) (h' := gz_up (gr_h I J) 52 (Int.toNat ((I 0 64))) (.inl a1)) (C := (True ∧ (0 ≤ (I 0 64) ∧ (I 0 64) < ((5000 : Nat) : Int)))) rfl ⟨trivial, ⟨by exact gz_m 0 (by omega), by exact gz_m 1 (by omega)⟩⟩ ?_
  refine gr_st hI FI rfl rfl ⟨⟨by show 0 ≤ _; exact gz_m 2 (by omega), by show _ ≤ 4; exact gz_m 3 (by omega)⟩, trivial⟩ (fun I6 hI6 FI6 q7 p7 => ?_)
  have t8 := p7 0 64 (fun q => absurd q.1 (by decide))
  have t9 := p7 0 122 (fun q => absurd q.1 (by decide))
  have t10 := p7 0 123 (fun q => absurd q.1 (by decide))
  have t11 := p7 0 3 (fun q => absurd q.1 (by decide))
  have t12 := p7 53 (Int.toNat (I 0 64)) (fun q => absurd q.1 (by decide))
  have t13 := p7 54 (Int.toNat (I 0 64)) (fun q => absurd q.1 (by decide))
  have f14 := (gr_b_0_64 hI6)
  have f15 := (gr_b_0_122 hI6)
  have f16 := (gr_b_0_123 hI6)
  have f17 := (gr_b_0_3 hI6)
  have KTM_I6 := gr_TM_k KTM_I p7 (by exact gz_m 4 (by omega))
  have f18 := (gr_b_0_64 hI6)
  refine gv_run 4 true hD (pc' := 18) (lv' := [(0, .inr (.inr (some 0))), (1, .inl a1), (2, .inl a2), (3, .inl a3), (4, .inr (.inl a4))]) (st' := [.inl (I6 0 64), .inr (.inr (some 53))]) (h' := gr_h I6 J) (C := ((((True ∧ True) ∧ True) ∧ True) ∧ True)) rfl ⟨⟨⟨⟨trivial, trivial⟩, trivial⟩, trivial⟩, trivial⟩ ?_
  rw [t8]
  refine gv_run 2 true hD (pc' := 20) (lv' := [(0, .inr (.inr (some 0))), (1, .inl a1), (2, .inl a2), (3, .inl a3), (4, .inr (.inl a4))]) (st' := []) (h' := gz_up (gr_h I6 J) 53 (Int.toNat ((I 0 64))) (.inl a2)) (C := ((True ∧ True) ∧ (0 ≤ (I 0 64) ∧ (I 0 64) < ((5000 : Nat) : Int)))) rfl ⟨⟨trivial, trivial⟩, ⟨by exact gz_m 5 (by omega), by exact gz_m 6 (by omega)⟩⟩ ?_
  refine gr_st hI6 FI6 rfl rfl ⟨⟨by show 0 ≤ _; exact gz_m 7 (by omega), by show _ ≤ 1999; exact gz_m 8 (by omega)⟩, trivial⟩ (fun I19 hI19 FI19 q20 p20 => ?_)
  have t21 := p20 0 64 (fun q => absurd q.1 (by decide))
  have t22 := p20 0 122 (fun q => absurd q.1 (by decide))
  have t23 := p20 0 123 (fun q => absurd q.1 (by decide))
  have t24 := p20 0 3 (fun q => absurd q.1 (by decide))
  have t25 := p20 52 (Int.toNat (I 0 64)) (fun q => absurd q.1 (by decide))
  have t26 := p20 54 (Int.toNat (I 0 64)) (fun q => absurd q.1 (by decide))
  have f27 := (gr_b_0_64 hI19)
  have f28 := (gr_b_0_122 hI19)
  have f29 := (gr_b_0_123 hI19)
  have f30 := (gr_b_0_3 hI19)
  have KTM_I19 := gr_TM_a KTM_I6 p20 (by exact gz_m 9 (by omega))
  have f31 := (gr_b_0_64 hI19)
  refine gv_run 4 true hD (pc' := 28) (lv' := [(0, .inr (.inr (some 0))), (1, .inl a1), (2, .inl a2), (3, .inl a3), (4, .inr (.inl a4))]) (st' := [.inl (I19 0 64), .inr (.inr (some 54))]) (h' := gr_h I19 J) (C := ((((True ∧ True) ∧ True) ∧ True) ∧ True)) rfl ⟨⟨⟨⟨trivial, trivial⟩, trivial⟩, trivial⟩, trivial⟩ ?_
  rw [(t21.trans t8)]
  refine gv_run 2 true hD (pc' := 30) (lv' := [(0, .inr (.inr (some 0))), (1, .inl a1), (2, .inl a2), (3, .inl a3), (4, .inr (.inl a4))]) (st' := []) (h' := gz_up (gr_h I19 J) 54 (Int.toNat ((I 0 64))) (.inl a3)) (C := ((True ∧ True) ∧ (0 ≤ (I 0 64) ∧ (I 0 64) < ((5000 : Nat) : Int)))) rfl ⟨⟨trivial, trivial⟩, ⟨by exact gz_m 10 (by omega), by exact gz_m 11 (by omega)⟩⟩ ?_
  refine gr_st hI19 FI19 rfl rfl ⟨⟨by show 0 ≤ _; exact gz_m 12 (by omega), by show _ ≤ 1999; exact gz_m 13 (by omega)⟩, trivial⟩ (fun I32 hI32 FI32 q33 p33 => ?_)
  have t34 := p33 0 64 (fun q => absurd q.1 (by decide))
  have t35 := p33 0 122 (fun q => absurd q.1 (by decide))
  have t36 := p33 0 123 (fun q => absurd q.1 (by decide))
  have t37 := p33 0 3 (fun q => absurd q.1 (by decide))
  have t38 := p33 52 (Int.toNat (I 0 64)) (fun q => absurd q.1 (by decide))
  have t39 := p33 53 (Int.toNat (I 0 64)) (fun q => absurd q.1 (by decide))
  have f40 := (gr_b_0_64 hI32)
  have f41 := (gr_b_0_122 hI32)
  have f42 := (gr_b_0_123 hI32)
  have f43 := (gr_b_0_3 hI32)
  have KTM_I32 := gr_TM_b KTM_I19 p33 (by exact gz_m 14 (by omega))
  refine gr_gst (a := 55) (k := (Int.toNat (I 0 64))) (z := (I 0 123)) hI32 FI32 rfl rfl ⟨⟨by show 0 ≤ _; exact gz_m 15 (by omega), by show _ ≤ 95; exact gz_m 16 (by omega)⟩, trivial⟩ (fun I44 hI44 FI44 q45 p45 => ?_)
  have t46 := p45 0 64 (fun q => absurd q.1 (by decide))
  have t47 := p45 0 122 (fun q => absurd q.1 (by decide))
  have t48 := p45 0 123 (fun q => absurd q.1 (by decide))
  have t49 := p45 0 3 (fun q => absurd q.1 (by decide))
  have t50 := p45 52 (Int.toNat (I 0 64)) (fun q => absurd q.1 (by decide))
  have t51 := p45 53 (Int.toNat (I 0 64)) (fun q => absurd q.1 (by decide))
  have t52 := p45 54 (Int.toNat (I 0 64)) (fun q => absurd q.1 (by decide))
  have f53 := (gr_b_0_64 hI44)
  have f54 := (gr_b_0_122 hI44)
  have f55 := (gr_b_0_123 hI44)
  have f56 := (gr_b_0_3 hI44)
  have KTM_I44 := gr_TM_fr KTM_I32 (fun k => p45 52 k (fun q => absurd q.1 (by decide))) (fun k => p45 53 k (fun q => absurd q.1 (by decide))) (fun k => p45 54 k (fun q => absurd q.1 (by decide))) (p45 0 64 (fun q => absurd q.1 (by decide)))
  refine gr_gst (a := 55) (k := (5000 + Int.toNat (I 0 64))) (z := (I 0 122)) hI44 FI44 rfl rfl ⟨⟨by show 0 ≤ _; exact gz_m 17 (by omega), by show _ ≤ 95; exact gz_m 18 (by omega)⟩, trivial⟩ (fun I57 hI57 FI57 q58 p58 => ?_)
  have t59 := p58 0 64 (fun q => absurd q.1 (by decide))
  have t60 := p58 0 122 (fun q => absurd q.1 (by decide))
  have t61 := p58 0 123 (fun q => absurd q.1 (by decide))
  have t62 := p58 0 3 (fun q => absurd q.1 (by decide))
  have t63 := p58 52 (Int.toNat (I 0 64)) (fun q => absurd q.1 (by decide))
  have t64 := p58 53 (Int.toNat (I 0 64)) (fun q => absurd q.1 (by decide))
  have t65 := p58 54 (Int.toNat (I 0 64)) (fun q => absurd q.1 (by decide))
  have f66 := (gr_b_0_64 hI57)
  have f67 := (gr_b_0_122 hI57)
  have f68 := (gr_b_0_123 hI57)
  have f69 := (gr_b_0_3 hI57)
  have KTM_I57 := gr_TM_fr KTM_I44 (fun k => p58 52 k (fun q => absurd q.1 (by decide))) (fun k => p58 53 k (fun q => absurd q.1 (by decide))) (fun k => p58 54 k (fun q => absurd q.1 (by decide))) (p58 0 64 (fun q => absurd q.1 (by decide)))
  have f70 := (gr_b_0_64 hI57)
  refine gv_run 4 true hD (pc' := 38) (lv' := [(0, .inr (.inr (some 0))), (1, .inl a1), (2, .inl a2), (3, .inl a3), (4, .inr (.inl a4))]) (st' := [.inl (I57 0 64), .inr (.inr (some 55))]) (h' := gr_h I57 J) (C := ((((True ∧ True) ∧ True) ∧ True) ∧ True)) rfl ⟨⟨⟨⟨trivial, trivial⟩, trivial⟩, trivial⟩, trivial⟩ ?_
  rw [(t59.trans (t46.trans (t34.trans (t21.trans t8))))]
  refine gv_run 2 true hD (pc' := 41) (lv' := [(0, .inr (.inr (some 0))), (1, .inl a1), (2, .inl a2), (3, .inl a3), (4, .inr (.inl a4))]) (st' := []) (h' := gz_up (gr_h I57 J) 55 (Int.toNat ((I 0 64))) (.inr (.inl a4))) (C := ((True ∧ True) ∧ (0 ≤ (I 0 64) ∧ (I 0 64) < ((5000 : Nat) : Int)))) rfl ⟨⟨trivial, trivial⟩, ⟨by exact gz_m 19 (by omega), by exact gz_m 20 (by omega)⟩⟩ ?_
  refine gr_stJ FJ rfl rfl (fun J71 FJ71 => ?_)
  have f72 := (gr_b_0_64 hI57)
  refine gv_run 3 true hD (pc' := 46) (lv' := [(0, .inr (.inr (some 0))), (1, .inl a1), (2, .inl a2), (3, .inl a3), (4, .inr (.inl a4))]) (st' := [.inl (I57 0 64), .inr (.inr (some 0))]) (h' := gr_h I57 J71) (C := (((True ∧ True) ∧ True) ∧ True)) rfl ⟨⟨⟨trivial, trivial⟩, trivial⟩, trivial⟩ ?_
  rw [(t59.trans (t46.trans (t34.trans (t21.trans t8))))]
  refine gv_run 3 true hD (pc' := 49) (lv' := [(0, .inr (.inr (some 0))), (1, .inl a1), (2, .inl a2), (3, .inl a3), (4, .inr (.inl a4))]) (st' := [.inl ((I 0 64) + 1), .inr (.inr (some 0)), .inl (I 0 64)]) (h' := gr_h I57 J71) (C := (((True ∧ True) ∧ True) ∧ True)) rfl ⟨⟨⟨trivial, trivial⟩, trivial⟩, trivial⟩ ?_
  refine gv_run 1 true hD (pc' := 52) (lv' := [(0, .inr (.inr (some 0))), (1, .inl a1), (2, .inl a2), (3, .inl a3), (4, .inr (.inl a4))]) (st' := [.inl (I 0 64)]) (h' := gz_up (gr_h I57 J71) 0 64 (.inl (((I 0 64) + 1)))) (C := (True ∧ True)) rfl ⟨trivial, trivial⟩ ?_
  refine gr_st hI57 FI57 rfl rfl ⟨⟨by show 0 ≤ _; exact gz_m 21 (by omega), by show _ ≤ 2000; exact gz_m 22 (by omega)⟩, trivial⟩ (fun I73 hI73 FI73 q74 p74 => ?_)
  have t75 := p74 0 122 (by decide)
  have t76 := p74 0 123 (by decide)
  have t77 := p74 0 3 (by decide)
  have t78 := p74 52 (Int.toNat (I 0 64)) (fun q => absurd q.1 (by decide))
  have t79 := p74 53 (Int.toNat (I 0 64)) (fun q => absurd q.1 (by decide))
  have t80 := p74 54 (Int.toNat (I 0 64)) (fun q => absurd q.1 (by decide))
  have f81 := (gr_b_0_64 hI73)
  have f82 := (gr_b_0_122 hI73)
  have f83 := (gr_b_0_123 hI73)
  have f84 := (gr_b_0_3 hI73)
  have KTM_I73 := gr_TM_n (n := (Int.toNat (I 0 64))) KTM_I57 p74 (by exact gz_m 23 (by omega))
  exact gv_iret hD rfl ⟨I73, J71, rfl, hI73, FI73, FJ71, KTM_I73, ⟨_, rfl, by exact gz_m 24 (by omega), by exact gz_m 25 (by omega), by exact gz_m 26 (by omega), by exact gz_m 27 (by omega), (gr_TO_new (I := I) (I' := I73) (k := a1) (a := a2) (b := a3) (y := (Int.toNat (I 0 64))) (by exact gz_m 28 (by omega)) (by exact gz_m 29 (by omega)) (by exact gz_m 30 (by omega)) x3 KTM_I hI x4 ⟨by exact gz_m 31 (by omega), by exact gz_m 32 (by omega)⟩ ⟨by exact gz_m 33 (by omega), by exact gz_m 34 (by omega)⟩ (by exact gz_m 35 (by omega)) (by exact gz_m 36 (by omega)) ⟨by exact gz_m 37 (by omega), by exact gz_m 38 (by omega)⟩ (by rw [p74 52 (Int.toNat ((I 0 64))) (fun q => absurd q.1 (by decide)), p58 52 (Int.toNat ((I 0 64))) (fun q => absurd q.1 (by decide)), p45 52 (Int.toNat ((I 0 64))) (fun q => absurd q.1 (by decide)), p33 52 (Int.toNat ((I 0 64))) (fun q => absurd q.1 (by decide)), p20 52 (Int.toNat ((I 0 64))) (fun q => absurd q.1 (by decide)), q7]) (by rw [p74 53 (Int.toNat ((I 0 64))) (fun q => absurd q.1 (by decide)), p58 53 (Int.toNat ((I 0 64))) (fun q => absurd q.1 (by decide)), p45 53 (Int.toNat ((I 0 64))) (fun q => absurd q.1 (by decide)), p33 53 (Int.toNat ((I 0 64))) (fun q => absurd q.1 (by decide)), q20]) (by rw [p74 54 (Int.toNat ((I 0 64))) (fun q => absurd q.1 (by decide)), p58 54 (Int.toNat ((I 0 64))) (fun q => absurd q.1 (by decide)), p45 54 (Int.toNat ((I 0 64))) (fun q => absurd q.1 (by decide)), q33]) (by rw [p74 55 (Int.toNat (I 0 64)) (fun q => absurd q.1 (by decide)), p58 55 (Int.toNat (I 0 64)) (fun q => by have := q.2; exact gz_m 39 (by omega)), q45]) (by rw [p74 55 (5000 + Int.toNat (I 0 64)) (fun q => absurd q.1 (by decide)), q58]) (fun z hz => by rw [p74 52 z (fun q => absurd q.1 (by decide)), p58 52 z (fun q => absurd q.1 (by decide)), p45 52 z (fun q => absurd q.1 (by decide)), p33 52 z (fun q => absurd q.1 (by decide)), p20 52 z (fun q => absurd q.1 (by decide)), p7 52 z (fun q => hz q.2)]) (fun z hz => by rw [p74 53 z (fun q => absurd q.1 (by decide)), p58 53 z (fun q => absurd q.1 (by decide)), p45 53 z (fun q => absurd q.1 (by decide)), p33 53 z (fun q => absurd q.1 (by decide)), p20 53 z (fun q => hz q.2), p7 53 z (fun q => absurd q.1 (by decide))]) (fun z hz => by rw [p74 54 z (fun q => absurd q.1 (by decide)), p58 54 z (fun q => absurd q.1 (by decide)), p45 54 z (fun q => absurd q.1 (by decide)), p33 54 z (fun q => hz q.2), p20 54 z (fun q => absurd q.1 (by decide)), p7 54 z (fun q => absurd q.1 (by decide))]) (fun z h1 h2 => by rw [p74 55 z (fun q => absurd q.1 (by decide)), p58 55 z (fun q => h2 q.2), p45 55 z (fun q => h1 q.2), p33 55 z (fun q => absurd q.1 (by decide)), p20 55 z (fun q => absurd q.1 (by decide)), p7 55 z (fun q => absurd q.1 (by decide))]) (fun z => by rw [p74 6 z (fun q => absurd q.1 (by decide)), p58 6 z (fun q => absurd q.1 (by decide)), p45 6 z (fun q => absurd q.1 (by decide)), p33 6 z (fun q => absurd q.1 (by decide)), p20 6 z (fun q => absurd q.1 (by decide)), p7 6 z (fun q => absurd q.1 (by decide))]) (by exact gz_m 40 (by omega))).1, (gr_TO_new (I := I) (I' := I73) (k := a1) (a := a2) (b := a3) (y := (Int.toNat (I 0 64))) (by exact gz_m 41 (by omega)) (by exact gz_m 42 (by omega)) (by exact gz_m 43 (by omega)) x3 KTM_I hI x4 ⟨by exact gz_m 44 (by omega), by exact gz_m 45 (by omega)⟩ ⟨by exact gz_m 46 (by omega), by exact gz_m 47 (by omega)⟩ (by exact gz_m 48 (by omega)) (by exact gz_m 49 (by omega)) ⟨by exact gz_m 50 (by omega), by exact gz_m 51 (by omega)⟩ (by rw [p74 52 (Int.toNat ((I 0 64))) (fun q => absurd q.1 (by decide)), p58 52 (Int.toNat ((I 0 64))) (fun q => absurd q.1 (by decide)), p45 52 (Int.toNat ((I 0 64))) (fun q => absurd q.1 (by decide)), p33 52 (Int.toNat ((I 0 64))) (fun q => absurd q.1 (by decide)), p20 52 (Int.toNat ((I 0 64))) (fun q => absurd q.1 (by decide)), q7]) (by rw [p74 53 (Int.toNat ((I 0 64))) (fun q => absurd q.1 (by decide)), p58 53 (Int.toNat ((I 0 64))) (fun q => absurd q.1 (by decide)), p45 53 (Int.toNat ((I 0 64))) (fun q => absurd q.1 (by decide)), p33 53 (Int.toNat ((I 0 64))) (fun q => absurd q.1 (by decide)), q20]) (by rw [p74 54 (Int.toNat ((I 0 64))) (fun q => absurd q.1 (by decide)), p58 54 (Int.toNat ((I 0 64))) (fun q => absurd q.1 (by decide)), p45 54 (Int.toNat ((I 0 64))) (fun q => absurd q.1 (by decide)), q33]) (by rw [p74 55 (Int.toNat (I 0 64)) (fun q => absurd q.1 (by decide)), p58 55 (Int.toNat (I 0 64)) (fun q => by have := q.2; exact gz_m 52 (by omega)), q45]) (by rw [p74 55 (5000 + Int.toNat (I 0 64)) (fun q => absurd q.1 (by decide)), q58]) (fun z hz => by rw [p74 52 z (fun q => absurd q.1 (by decide)), p58 52 z (fun q => absurd q.1 (by decide)), p45 52 z (fun q => absurd q.1 (by decide)), p33 52 z (fun q => absurd q.1 (by decide)), p20 52 z (fun q => absurd q.1 (by decide)), p7 52 z (fun q => hz q.2)]) (fun z hz => by rw [p74 53 z (fun q => absurd q.1 (by decide)), p58 53 z (fun q => absurd q.1 (by decide)), p45 53 z (fun q => absurd q.1 (by decide)), p33 53 z (fun q => absurd q.1 (by decide)), p20 53 z (fun q => hz q.2), p7 53 z (fun q => absurd q.1 (by decide))]) (fun z hz => by rw [p74 54 z (fun q => absurd q.1 (by decide)), p58 54 z (fun q => absurd q.1 (by decide)), p45 54 z (fun q => absurd q.1 (by decide)), p33 54 z (fun q => hz q.2), p20 54 z (fun q => absurd q.1 (by decide)), p7 54 z (fun q => absurd q.1 (by decide))]) (fun z h1 h2 => by rw [p74 55 z (fun q => absurd q.1 (by decide)), p58 55 z (fun q => h2 q.2), p45 55 z (fun q => h1 q.2), p33 55 z (fun q => absurd q.1 (by decide)), p20 55 z (fun q => absurd q.1 (by decide)), p7 55 z (fun q => absurd q.1 (by decide))]) (fun z => by rw [p74 6 z (fun q => absurd q.1 (by decide)), p58 6 z (fun q => absurd q.1 (by decide)), p45 6 z (fun q => absurd q.1 (by decide)), p33 6 z (fun q => absurd q.1 (by decide)), p20 6 z (fun q => absurd q.1 (by decide)), p7 6 z (fun q => absurd q.1 (by decide))]) (by exact gz_m 53 (by omega))).2, (by rw [p74 55 (Int.toNat (I 0 64)) (fun q => absurd q.1 (by decide)), p58 55 (Int.toNat (I 0 64)) (fun q => by have := q.2; exact gz_m 54 (by omega)), q45]), (by rw [p74 55 (5000 + Int.toNat (I 0 64)) (fun q => absurd q.1 (by decide)), q58])⟩⟩
