theorem gh_op_cp {I Iₚ : gr_I} {T U : Nat} : ∀ {n : Nat}, (∀ k, k < n → Iₚ U k = I T k) → (∀ k, Iₚ 12 k = I 12 k) → gc_op Iₚ U n = gc_op I T n
  | 0, _, _ => rfl
  | n + 1, h, h2 => by
    show gc_op Iₚ U n - 1 + Iₚ 12 (Int.toNat (Iₚ U n)) = gc_op I T n - 1 + I 12 (Int.toNat (I T n))
    rw [gh_op_cp (n := n) (fun k hk => h k (by omega)) h2, h n (by omega), h2]
theorem gh_wtr_cp {I Iₚ : gr_I} {T U : Nat} {n : Int} (h : gc_wtr I T n) (h0 : 0 ≤ n) (e : ∀ k : Nat, (k : Int) < n → Iₚ U k = I T k) (h2 : ∀ k, Iₚ 12 k = I 12 k) : gc_wtr Iₚ U n := ⟨fun i hi => by rw [gh_op_cp (T := T) (fun k hk => e k (by omega)) h2]; exact h.1 i hi, by rw [gh_op_cp (T := T) (fun k hk => e k (by omega)) h2]; exact h.2⟩
theorem gh_rg_cp {I Iₚ : gr_I} {T U : Nat} {n lo hi : Int} (h : gc_rg T I n lo hi) (e : ∀ k : Nat, (k : Int) < n → Iₚ U k = I T k) : gc_rg U Iₚ n lo hi := fun k a b => by rw [e (Int.toNat k) (by omega)]; exact h k a b
theorem gh_cand {sh : gz_Sh} {ro : Nat → Nat} {A : gc_A} (hb : gc_Base sh ro A) (i : Nat) (hi : i < 16) : ∃ q, A 125 i = some q ∧ sh[q]? = some (true, 0, 200) ∧ ro q = 1 ∧ q < 1000000 ∧ q = 126 + i := by
  match i, hi with
  | 0, _ => exact ⟨126, gc_bA hb rfl, gc_bS hb rfl, gc_bR hb (by decide) rfl, by decide, rfl⟩
  | 1, _ => exact ⟨127, gc_bA hb rfl, gc_bS hb rfl, gc_bR hb (by decide) rfl, by decide, rfl⟩
  | 2, _ => exact ⟨128, gc_bA hb rfl, gc_bS hb rfl, gc_bR hb (by decide) rfl, by decide, rfl⟩
  | 3, _ => exact ⟨129, gc_bA hb rfl, gc_bS hb rfl, gc_bR hb (by decide) rfl, by decide, rfl⟩
  | 4, _ => exact ⟨130, gc_bA hb rfl, gc_bS hb rfl, gc_bR hb (by decide) rfl, by decide, rfl⟩
  | 5, _ => exact ⟨131, gc_bA hb rfl, gc_bS hb rfl, gc_bR hb (by decide) rfl, by decide, rfl⟩
  | 6, _ => exact ⟨132, gc_bA hb rfl, gc_bS hb rfl, gc_bR hb (by decide) rfl, by decide, rfl⟩
  | 7, _ => exact ⟨133, gc_bA hb rfl, gc_bS hb rfl, gc_bR hb (by decide) rfl, by decide, rfl⟩
  | 8, _ => exact ⟨134, gc_bA hb rfl, gc_bS hb rfl, gc_bR hb (by decide) rfl, by decide, rfl⟩
  | 9, _ => exact ⟨135, gc_bA hb rfl, gc_bS hb rfl, gc_bR hb (by decide) rfl, by decide, rfl⟩
  | 10, _ => exact ⟨136, gc_bA hb rfl, gc_bS hb rfl, gc_bR hb (by decide) rfl, by decide, rfl⟩
  | 11, _ => exact ⟨137, gc_bA hb rfl, gc_bS hb rfl, gc_bR hb (by decide) rfl, by decide, rfl⟩
  | 12, _ => exact ⟨138, gc_bA hb rfl, gc_bS hb rfl, gc_bR hb (by decide) rfl, by decide, rfl⟩
  | 13, _ => exact ⟨139, gc_bA hb rfl, gc_bS hb rfl, gc_bR hb (by decide) rfl, by decide, rfl⟩
  | 14, _ => exact ⟨140, gc_bA hb rfl, gc_bS hb rfl, gc_bR hb (by decide) rfl, by decide, rfl⟩
  | 15, _ => exact ⟨141, gc_bA hb rfl, gc_bS hb rfl, gc_bR hb (by decide) rfl, by decide, rfl⟩
  | _ + 16, h => exact absurd h (by omega)
set_option maxHeartbeats 8000000 in
set_option maxRecDepth 100000 in
theorem d_X12_tree {ws0 : List Cond} {tb : String → gz_T} (hws : gc_Ws ws0) (htb : gc_tbs tb) (sh : gz_Sh) (ro : Nat → Nat) (I : gr_I) (J : gr_J) (A : gc_A) (hI : gc_Inv ro I) (u : Nat) (a1 : Int) (hb : gc_Base sh ro A) (S_u : sh[u]? = some (true, 1, 60)) (R_u : ro u = 37) (B_u : u < 1000000) (ha1 : 0 ≤ a1 ∧ a1 ≤ 7) (x0 : A 114 (Int.toNat a1) = some u) (x1 : u = 115 + Int.toNat a1) : ∃ r hₚ, gz_Ev ws0 tb 5 (yX12_tree, cX12_tree, 3, (some .int)) [.inr (.inr (some 0)), .inl a1] sh (gc_h sh I J A) r sh hₚ 0 0 ∧ (∃ (Iₚ : gr_I) (Jₚ : gr_J), hₚ = gc_h sh Iₚ Jₚ A ∧ gc_Inv ro Iₚ ∧ (∀ q j : Nat, ((q = 39 ∧ j = 3) ∨ (q = 39 ∧ j = 4) ∨ (q = 23 ∧ j = 5) ∨ (q = 23 ∧ j = 6) ∨ (q = 23 ∧ j = 7) ∨ (q = 23 ∧ j = 8) ∨ q = 123 ∨ q = 46 ∨ q = 47 ∨ (q = 23 ∧ j = 1) ∨ q = u ∨ (q = 124 ∧ j = (Int.toNat a1))) ∨ Iₚ q j = I q j) ∧ (∀ q j : Nat, ((q = 23 ∧ j = 9)) ∨ Jₚ q j = J q j) ∧ (∃ z : Int, r = some (.inl z) ∧ (-1001) ≤ z ∧ z ≤ 60 ∧ (Iₚ 23 1 = 0) ∧ (z ≤ 0 ∨ (gc_wtr Iₚ u z ∧ gc_rg u Iₚ z 0 (I 4 1 - 1) ∧ Iₚ 124 (Int.toNat a1) = z)) ∧ (0 < z ∨ ((∀ k, Iₚ u k = I u k) ∧ Iₚ 124 (Int.toNat a1) = I 124 (Int.toNat a1))))) := by
  have FI : ∀ q j : Nat, ((q = 39 ∧ j = 3) ∨ (q = 39 ∧ j = 4) ∨ (q = 23 ∧ j = 5) ∨ (q = 23 ∧ j = 6) ∨ (q = 23 ∧ j = 7) ∨ (q = 23 ∧ j = 8) ∨ q = 123 ∨ q = 46 ∨ q = 47 ∨ (q = 23 ∧ j = 1) ∨ q = u ∨ (q = 124 ∧ j = (Int.toNat a1))) ∨ I q j = I q j := fun _ _ => Or.inr rfl
  have FJ : ∀ q j : Nat, ((q = 23 ∧ j = 9)) ∨ J q j = J q j := fun _ _ => Or.inr rfl
  have A_0_1 : A 0 1 = some 23 := gc_bA_0_1 hb
  have A_0_11 : A 0 11 = some 114 := gc_bA_0_11 hb
  have A_0_12 : A 0 12 = some 124 := gc_bA_0_12 hb
  have A_0_5 : A 0 5 = some 39 := gc_bA_0_5 hb
  have B_0 : 0 < 1000000 := by decide
  have B_114 : 114 < 1000000 := by decide
  have B_123 : 123 < 1000000 := by decide
  have B_124 : 124 < 1000000 := by decide
  have B_23 : 23 < 1000000 := by decide
  have B_39 : 39 < 1000000 := by decide
  have R_123 : ro 123 = 37 := gc_bR_123 hb
  have R_124 : ro 124 = 68 := gc_bR_124 hb
  have R_23 : ro 23 = 3 := gc_bR_23 hb
  have R_4 : ro 4 = 11 := gc_bR_4 hb
  have S_0 : sh[0]? = some (false, 12, 17) := gc_bS_0 hb
  have S_114 : sh[114]? = some (true, 7, 9) := gc_bS_114 hb
  have S_123 : sh[123]? = some (true, 1, 60) := gc_bS_123 hb
  have S_124 : sh[124]? = some (true, 1, 9) := gc_bS_124 hb
  have S_23 : sh[23]? = some (false, 9, 10) := gc_bS_23 hb
  have S_39 : sh[39]? = some (false, 6, 19) := gc_bS_39 hb
  have hD : gv_D (gc_E12 ws0 tb 4 (yX12_tree, cX12_tree, 3, (some .int)) kX12_tree) := gq_of oX12_tree
  refine gc_ev12 (d := 4) (l := kX12_tree) (Po := fun r hₚ => (∃ (Iₚ : gr_I) (Jₚ : gr_J), hₚ = gc_h sh Iₚ Jₚ A ∧ gc_Inv ro Iₚ ∧ (∀ q j : Nat, ((q = 39 ∧ j = 3) ∨ (q = 39 ∧ j = 4) ∨ (q = 23 ∧ j = 5) ∨ (q = 23 ∧ j = 6) ∨ (q = 23 ∧ j = 7) ∨ (q = 23 ∧ j = 8) ∨ q = 123 ∨ q = 46 ∨ q = 47 ∨ (q = 23 ∧ j = 1) ∨ q = u ∨ (q = 124 ∧ j = (Int.toNat a1))) ∨ Iₚ q j = I q j) ∧ (∀ q j : Nat, ((q = 23 ∧ j = 9)) ∨ Jₚ q j = J q j) ∧ (∃ z : Int, r = some (.inl z) ∧ (-1001) ≤ z ∧ z ≤ 60 ∧ (Iₚ 23 1 = 0) ∧ (z ≤ 0 ∨ (gc_wtr Iₚ u z ∧ gc_rg u Iₚ z 0 (I 4 1 - 1) ∧ Iₚ 124 (Int.toNat a1) = z)) ∧ (0 < z ∨ ((∀ k, Iₚ u k = I u k) ∧ Iₚ 124 (Int.toNat a1) = I 124 (Int.toNat a1)))))) htb rfl (Nat.le_of_ble_eq_true rfl) ?_
  have N_23__u : ¬ (23 = u) := by exact gz_m 0 (by omega)
  have N_4__u : ¬ (4 = u) := by exact gz_m 1 (by omega)
  have f1 := (gc_b_3_1 hI R_23)
  have f2 := (gc_b_11_1 hI R_4)
  refine gv_run 1 true hD (pcₚ := 1) (lvₚ := [(0, .inr (.inr (some 0))), (1, .inl a1)]) (stₚ := [.inl a1]) (hₚ := gc_h sh I J A) (C := (True ∧ True)) rfl ⟨trivial, trivial⟩ ?_
  obtain ⟨r3, h3, E3, P3⟩ := d_X12_checkPlace (ws0 := ws0) (tb := tb) hws htb sh ro I J A hI  a1 hb   ⟨by exact gz_m 2 (by omega), by exact gz_m 3 (by omega)⟩  
  obtain ⟨rfl, rfl⟩ := P3
  refine gv_callS hD rfl (As := [.inl a1]) (st := []) rfl (gc_lS12 hws rfl) (Nat.le_of_ble_eq_true rfl) (gz_Ev_mono (d := 1) (by decide) E3) ?_
  show gv_X _ _ (4, [(0, .inr (.inr (some 0))), (1, .inl a1)], [], sh, gc_h sh I J A)
  refine gv_run 1 true hD (pcₚ := 5) (lvₚ := [(0, .inr (.inr (some 0))), (1, .inl a1)]) (stₚ := [.inr (.inr (some 0))]) (hₚ := gc_h sh I J A) (C := (True ∧ True)) rfl ⟨trivial, trivial⟩ ?_
  refine gv_get hD rfl rfl S_0 ⟨by decide, B_0⟩ (gc_hA S_0 rfl A_0_5) ?_
  show gv_X _ _ (8, [(0, .inr (.inr (some 0))), (1, .inl a1)], [.inr (.inr (some 39))], sh, gc_h sh I J A)
  refine gv_run 1 true hD (pcₚ := 9) (lvₚ := [(0, .inr (.inr (some 0))), (1, .inl a1)]) (stₚ := [.inr (.inr (some 0)), .inr (.inr (some 39))]) (hₚ := gc_h sh I J A) (C := (True ∧ True)) rfl ⟨trivial, trivial⟩ ?_
  refine gv_get hD rfl rfl S_0 ⟨by decide, B_0⟩ (gc_hA S_0 rfl A_0_11) ?_
  show gv_X _ _ (12, [(0, .inr (.inr (some 0))), (1, .inl a1)], [.inr (.inr (some 114)), .inr (.inr (some 39))], sh, gc_h sh I J A)
  refine gv_run 1 true hD (pcₚ := 14) (lvₚ := [(0, .inr (.inr (some 0))), (1, .inl a1)]) (stₚ := [.inl 8, .inr (.inr (some 114)), .inr (.inr (some 39))]) (hₚ := gc_h sh I J A) (C := (True ∧ True)) rfl ⟨trivial, trivial⟩ ?_
  refine gv_aald hD rfl S_114 ⟨by decide, by decide⟩ ⟨by decide, B_114⟩ ⟨by exact gz_m 4 (by omega), by exact gz_m 5 (by omega)⟩ ((gc_aA S_114 rfl).trans (show A 114 8 = some 123 from gc_bA hb rfl)) ?_
  show gv_X _ _ (15, [(0, .inr (.inr (some 0))), (1, .inl a1)], [.inr (.inr (some 123)), .inr (.inr (some 39))], sh, gc_h sh I J A)
  obtain ⟨r5, h5, E5, P5⟩ := d_X6_readTree_f (ws0 := ws0) (tb := tb) hws htb sh ro I J A hI  60 123 hb S_123 R_123 B_123 (by decide)   (by exact gz_m 6 (by omega)) (by exact gz_m 7 (by omega)) 
  obtain ⟨I6, J7, rfl, hI6, g5, k5, ⟨z5, rfl, q5⟩⟩ := P5
  have FI6 := gc_frc (W := fun q j => (q = 39 ∧ j = 3) ∨ (q = 39 ∧ j = 4) ∨ (q = 23 ∧ j = 5) ∨ (q = 23 ∧ j = 6) ∨ (q = 23 ∧ j = 7) ∨ (q = 23 ∧ j = 8) ∨ q = 123 ∨ q = 46 ∨ q = 47 ∨ (q = 23 ∧ j = 1) ∨ q = u ∨ (q = 124 ∧ j = (Int.toNat a1))) (V := fun q j => (q = 39 ∧ j = 3) ∨ (q = 39 ∧ j = 4) ∨ (q = 23 ∧ j = 5) ∨ (q = 23 ∧ j = 6) ∨ (q = 23 ∧ j = 7) ∨ (q = 23 ∧ j = 8) ∨ q = 123 ∨ q = 46 ∨ q = 47) FI (fun q j h => (h.elim (fun h => (Or.inl h)) (fun h => (h.elim (fun h => (Or.inr (Or.inl h))) (fun h => (h.elim (fun h => (Or.inr (Or.inr (Or.inl h)))) (fun h => (h.elim (fun h => (Or.inr (Or.inr (Or.inr (Or.inl h))))) (fun h => (h.elim (fun h => (Or.inr (Or.inr (Or.inr (Or.inr (Or.inl h)))))) (fun h => (h.elim (fun h => (Or.inr (Or.inr (Or.inr (Or.inr (Or.inr (Or.inl h))))))) (fun h => (h.elim (fun h => (Or.inr (Or.inr (Or.inr (Or.inr (Or.inr (Or.inr (Or.inl h)))))))) (fun h => (h.elim (fun h => (Or.inr (Or.inr (Or.inr (Or.inr (Or.inr (Or.inr (Or.inr (Or.inl h))))))))) (fun h => (Or.inr (Or.inr (Or.inr (Or.inr (Or.inr (Or.inr (Or.inr (Or.inr (Or.inl h)))))))))))))))))))))))))) g5
  have FJ7 := gc_frc (W := fun q j => (q = 23 ∧ j = 9)) (V := fun q j => (q = 23 ∧ j = 9)) FJ (fun q j h => h) k5
  have t8 := (g5 23 1).resolve_left (fun h => h.elim (fun h => absurd h.2 (by first | exact gz_ne rfl | decide)) (fun h => h.elim (fun h => absurd h.2 (by first | exact gz_ne rfl | decide)) (fun h => h.elim (fun h => absurd h.2 (by first | exact gz_ne rfl | decide)) (fun h => h.elim (fun h => absurd h.2 (by first | exact gz_ne rfl | decide)) (fun h => h.elim (fun h => absurd h.2 (by first | exact gz_ne rfl | decide)) (fun h => h.elim (fun h => absurd h.2 (by first | exact gz_ne rfl | decide)) (fun h => h.elim (fun h => absurd h (by first | exact gz_ne rfl | decide)) (fun h => h.elim (fun h => absurd h (by first | exact gz_ne rfl | decide)) (fun h => absurd h (by first | exact gz_ne rfl | decide))))))))))
  have t9 := (g5 4 1).resolve_left (fun h => h.elim (fun h => absurd h.2 (by first | exact gz_ne rfl | decide)) (fun h => h.elim (fun h => absurd h.2 (by first | exact gz_ne rfl | decide)) (fun h => h.elim (fun h => absurd h.2 (by first | exact gz_ne rfl | decide)) (fun h => h.elim (fun h => absurd h.2 (by first | exact gz_ne rfl | decide)) (fun h => h.elim (fun h => absurd h.2 (by first | exact gz_ne rfl | decide)) (fun h => h.elim (fun h => absurd h.2 (by first | exact gz_ne rfl | decide)) (fun h => h.elim (fun h => absurd h (by first | exact gz_ne rfl | decide)) (fun h => h.elim (fun h => absurd h (by first | exact gz_ne rfl | decide)) (fun h => absurd h (by first | exact gz_ne rfl | decide))))))))))
  refine gv_callV hD rfl (As := [.inr (.inr (some 123))]) (st := []) rfl B_39 S_39 rfl (gc_lV12 hws rfl) (Nat.le_of_ble_eq_true rfl) (gz_Ev_mono (d := 4) (by decide) E5) ?_
  show gv_X _ _ (18, [(0, .inr (.inr (some 0))), (1, .inl a1)], [.inl z5], sh, gc_h sh I6 J7 A)
  refine gv_run 2 true hD (pcₚ := 20) (lvₚ := [(2, .inl z5), (0, .inr (.inr (some 0))), (1, .inl a1)]) (stₚ := [.inr (.inr (some 0))]) (hₚ := gc_h sh I6 J7 A) (C := ((True ∧ True) ∧ True)) rfl ⟨⟨trivial, trivial⟩, trivial⟩ ?_
  refine gv_get hD rfl rfl S_0 ⟨by decide, B_0⟩ (gc_hA S_0 rfl A_0_1) ?_
  show gv_X _ _ (23, [(2, .inl z5), (0, .inr (.inr (some 0))), (1, .inl a1)], [.inr (.inr (some 23))], sh, gc_h sh I6 J7 A)
  refine gv_run 1 true hD (pcₚ := 24) (lvₚ := [(2, .inl z5), (0, .inr (.inr (some 0))), (1, .inl a1)]) (stₚ := [.inl 0, .inr (.inr (some 23))]) (hₚ := gc_h sh I6 J7 A) (C := (True ∧ True)) rfl ⟨trivial, trivial⟩ ?_
  refine gv_put hD rfl rfl S_23 ⟨by decide, B_23⟩ rfl trivial ?_
  refine gc_st (k := 1) hI6 S_23 rfl R_23 (lo := 0) (hi := 1000) rfl rfl (by exact gz_m 8 (by omega)) (by exact gz_m 9 (by omega)) (fun I10 hI10 q11 p11 => ?_)
  have FI10 := gc_frs (W := fun q j => (q = 39 ∧ j = 3) ∨ (q = 39 ∧ j = 4) ∨ (q = 23 ∧ j = 5) ∨ (q = 23 ∧ j = 6) ∨ (q = 23 ∧ j = 7) ∨ (q = 23 ∧ j = 8) ∨ q = 123 ∨ q = 46 ∨ q = 47 ∨ (q = 23 ∧ j = 1) ∨ q = u ∨ (q = 124 ∧ j = (Int.toNat a1))) FI6 (Or.inr (Or.inr (Or.inr (Or.inr (Or.inr (Or.inr (Or.inr (Or.inr (Or.inr (Or.inl ⟨rfl, rfl⟩)))))))))) p11
  have t12 := p11 4 1 (fun h => absurd h.1 (by first | exact gz_ne rfl | decide))
  have f13 := (gc_b_3_1 hI10 R_23)
  show gv_X _ _ (27, [(2, .inl z5), (0, .inr (.inr (some 0))), (1, .inl a1)], [], sh, gc_h sh I10 J7 A)
  refine gv_run 1 true hD (pcₚ := 28) (lvₚ := [(2, .inl z5), (0, .inr (.inr (some 0))), (1, .inl a1)]) (stₚ := [.inl z5]) (hₚ := gc_h sh I10 J7 A) (C := (True ∧ True)) rfl ⟨trivial, trivial⟩ ?_
  refine gv_if_le (t := 57) hD rfl rfl ⟨by exact gz_m 10 (by omega), by exact gz_m 11 (by omega)⟩ (fun c14 => ?_) (fun c14 => ?_)
  · show gv_X _ _ (57, [(2, .inl z5), (0, .inr (.inr (some 0))), (1, .inl a1)], [], sh, gc_h sh I10 J7 A)
    refine gv_run 1 true hD (pcₚ := 58) (lvₚ := [(2, .inl z5), (0, .inr (.inr (some 0))), (1, .inl a1)]) (stₚ := [.inl z5]) (hₚ := gc_h sh I10 J7 A) (C := (True ∧ True)) rfl ⟨trivial, trivial⟩ ?_
    exact gv_iret hD rfl ⟨I10, J7, rfl, hI10, FI10, FJ7, ⟨_, rfl, by exact gz_m 12 (by omega), by exact gz_m 13 (by omega), by exact gz_m 14 (by omega), (Or.inl (by exact gz_m 15 (by omega))), (Or.inr ⟨fun k => ((p11 u k (fun h => absurd h.1 (by exact gz_m 16 (by omega)))).trans ((g5 u k).resolve_left (by exact gz_m 17 (by omega)))), ((p11 124 (Int.toNat a1) (fun h => absurd h.1 (by exact gz_m 18 (by omega)))).trans ((g5 124 (Int.toNat a1)).resolve_left (by exact gz_m 19 (by omega))))⟩)⟩⟩
  · show gv_X _ _ (31, [(2, .inl z5), (0, .inr (.inr (some 0))), (1, .inl a1)], [], sh, gc_h sh I10 J7 A)
    refine gv_run 1 true hD (pcₚ := 32) (lvₚ := [(2, .inl z5), (0, .inr (.inr (some 0))), (1, .inl a1)]) (stₚ := [.inr (.inr (some 0))]) (hₚ := gc_h sh I10 J7 A) (C := (True ∧ True)) rfl ⟨trivial, trivial⟩ ?_
    refine gv_get hD rfl rfl S_0 ⟨by decide, B_0⟩ (gc_hA S_0 rfl A_0_11) ?_
    show gv_X _ _ (35, [(2, .inl z5), (0, .inr (.inr (some 0))), (1, .inl a1)], [.inr (.inr (some 114))], sh, gc_h sh I10 J7 A)
    refine gv_run 1 true hD (pcₚ := 37) (lvₚ := [(2, .inl z5), (0, .inr (.inr (some 0))), (1, .inl a1)]) (stₚ := [.inl 8, .inr (.inr (some 114))]) (hₚ := gc_h sh I10 J7 A) (C := (True ∧ True)) rfl ⟨trivial, trivial⟩ ?_
    refine gv_aald hD rfl S_114 ⟨by decide, by decide⟩ ⟨by decide, B_114⟩ ⟨by exact gz_m 20 (by omega), by exact gz_m 21 (by omega)⟩ ((gc_aA S_114 rfl).trans (show A 114 8 = some 123 from gc_bA hb rfl)) ?_
    show gv_X _ _ (38, [(2, .inl z5), (0, .inr (.inr (some 0))), (1, .inl a1)], [.inr (.inr (some 123))], sh, gc_h sh I10 J7 A)
    refine gv_run 2 true hD (pcₚ := 40) (lvₚ := [(2, .inl z5), (0, .inr (.inr (some 0))), (1, .inl a1)]) (stₚ := [.inr (.inr (some 0)), .inl 0, .inr (.inr (some 123))]) (hₚ := gc_h sh I10 J7 A) (C := ((True ∧ True) ∧ True)) rfl ⟨⟨trivial, trivial⟩, trivial⟩ ?_
    refine gv_get hD rfl rfl S_0 ⟨by decide, B_0⟩ (gc_hA S_0 rfl A_0_11) ?_
    show gv_X _ _ (43, [(2, .inl z5), (0, .inr (.inr (some 0))), (1, .inl a1)], [.inr (.inr (some 114)), .inl 0, .inr (.inr (some 123))], sh, gc_h sh I10 J7 A)
    refine gv_run 1 true hD (pcₚ := 44) (lvₚ := [(2, .inl z5), (0, .inr (.inr (some 0))), (1, .inl a1)]) (stₚ := [.inl a1, .inr (.inr (some 114)), .inl 0, .inr (.inr (some 123))]) (hₚ := gc_h sh I10 J7 A) (C := (True ∧ True)) rfl ⟨trivial, trivial⟩ ?_
    refine gv_aald hD rfl S_114 ⟨by decide, by decide⟩ ⟨by decide, B_114⟩ ⟨by exact gz_m 22 (by omega), by exact gz_m 23 (by omega)⟩ ((gc_aA S_114 rfl).trans x0) ?_
    show gv_X _ _ (45, [(2, .inl z5), (0, .inr (.inr (some 0))), (1, .inl a1)], [.inr (.inr (some u)), .inl 0, .inr (.inr (some 123))], sh, gc_h sh I10 J7 A)
    refine gv_run 2 true hD (pcₚ := 47) (lvₚ := [(2, .inl z5), (0, .inr (.inr (some 0))), (1, .inl a1)]) (stₚ := [.inl z5, .inl 0, .inr (.inr (some u)), .inl 0, .inr (.inr (some 123))]) (hₚ := gc_h sh I10 J7 A) (C := ((True ∧ True) ∧ True)) rfl ⟨⟨trivial, trivial⟩, trivial⟩ ?_
    refine gv_copy hD rfl (gc_lC12_256 hws) (Nat.le_of_ble_eq_true rfl) ⟨B_123, B_u⟩ S_123 S_u (by decide) ⟨by decide, by decide⟩ ⟨by exact gz_m 24 (by omega), by exact gz_m 25 (by omega), by exact gz_m 26 (by omega)⟩ (by exact gz_m 27 (by omega)) (by exact gz_m 28 (by omega)) (fun h => absurd h (by first | exact gz_ne rfl | decide)) ?_
    refine gc_cp hI10 S_123 S_u (by decide) (fun j hj => by have h9 := (gc_b_37 hI10 R_123 (Int.toNat 0 + j)); rw [R_u]; exact ⟨by show 0 ≤ _; exact gz_m 29 (by omega), by show _ ≤ 95; exact gz_m 30 (by omega)⟩) (fun I18 hI18 p17 q17 => ?_)
    have FI18 := gc_frp (W := fun q j => (q = 39 ∧ j = 3) ∨ (q = 39 ∧ j = 4) ∨ (q = 23 ∧ j = 5) ∨ (q = 23 ∧ j = 6) ∨ (q = 23 ∧ j = 7) ∨ (q = 23 ∧ j = 8) ∨ q = 123 ∨ q = 46 ∨ q = 47 ∨ (q = 23 ∧ j = 1) ∨ q = u ∨ (q = 124 ∧ j = (Int.toNat a1))) (V := fun q j => q = u ∧ Int.toNat 0 ≤ j ∧ j < Int.toNat 0 + Int.toNat z5) FI10 (fun q j h => (Or.inr (Or.inr (Or.inr (Or.inr (Or.inr (Or.inr (Or.inr (Or.inr (Or.inr (Or.inr (Or.inl h.1)))))))))))) p17
    have t20 := p17 23 1 (fun h => absurd h.1 N_23__u)
    have t21 := p17 4 1 (fun h => absurd h.1 N_4__u)
    have f22 := (gc_b_3_1 hI18 R_23)
    have f23 := (gc_b_11_1 hI18 R_4)
    show gv_X _ _ (50, [(2, .inl z5), (0, .inr (.inr (some 0))), (1, .inl a1)], [], sh, gc_h sh I18 J7 A)
    refine gv_run 1 true hD (pcₚ := 51) (lvₚ := [(2, .inl z5), (0, .inr (.inr (some 0))), (1, .inl a1)]) (stₚ := [.inr (.inr (some 0))]) (hₚ := gc_h sh I18 J7 A) (C := (True ∧ True)) rfl ⟨trivial, trivial⟩ ?_
    refine gv_get hD rfl rfl S_0 ⟨by decide, B_0⟩ (gc_hA S_0 rfl A_0_12) ?_
    show gv_X _ _ (54, [(2, .inl z5), (0, .inr (.inr (some 0))), (1, .inl a1)], [.inr (.inr (some 124))], sh, gc_h sh I18 J7 A)
    refine gv_run 2 true hD (pcₚ := 56) (lvₚ := [(2, .inl z5), (0, .inr (.inr (some 0))), (1, .inl a1)]) (stₚ := [.inl z5, .inl a1, .inr (.inr (some 124))]) (hₚ := gc_h sh I18 J7 A) (C := ((True ∧ True) ∧ True)) rfl ⟨⟨trivial, trivial⟩, trivial⟩ ?_
    refine gv_iast hD rfl S_124 ⟨by decide, B_124⟩ ⟨by exact gz_m 31 (by omega), by exact gz_m 32 (by omega)⟩ ?_
    refine gc_st hI18 S_124 rfl R_124 (lo := 0) (hi := 60) rfl rfl (by exact gz_m 33 (by omega)) (by exact gz_m 34 (by omega)) (fun I24 hI24 q25 p25 => ?_)
    have FI24 := gc_frs (W := fun q j => (q = 39 ∧ j = 3) ∨ (q = 39 ∧ j = 4) ∨ (q = 23 ∧ j = 5) ∨ (q = 23 ∧ j = 6) ∨ (q = 23 ∧ j = 7) ∨ (q = 23 ∧ j = 8) ∨ q = 123 ∨ q = 46 ∨ q = 47 ∨ (q = 23 ∧ j = 1) ∨ q = u ∨ (q = 124 ∧ j = (Int.toNat a1))) FI18 (Or.inr (Or.inr (Or.inr (Or.inr (Or.inr (Or.inr (Or.inr (Or.inr (Or.inr (Or.inr (Or.inr ⟨rfl, rfl⟩))))))))))) p25
    have t26 := p25 23 1 (fun h => absurd h.1 (by first | exact gz_ne rfl | decide))
    have t27 := p25 4 1 (fun h => absurd h.1 (by first | exact gz_ne rfl | decide))
    show gv_X _ _ (57, [(2, .inl z5), (0, .inr (.inr (some 0))), (1, .inl a1)], [], sh, gc_h sh I24 J7 A)
    refine gv_run 1 true hD (pcₚ := 58) (lvₚ := [(2, .inl z5), (0, .inr (.inr (some 0))), (1, .inl a1)]) (stₚ := [.inl z5]) (hₚ := gc_h sh I24 J7 A) (C := (True ∧ True)) rfl ⟨trivial, trivial⟩ ?_
    exact gv_iret hD rfl ⟨I24, J7, rfl, hI24, FI24, FJ7, ⟨_, rfl, by exact gz_m 35 (by omega), by exact gz_m 36 (by omega), by exact gz_m 37 (by omega), (Or.inr ⟨gh_wtr_cp (q5.2.2.2.1.resolve_left (by exact gz_m 38 (by omega))) (by exact gz_m 39 (by omega)) (fun k hk => ((p25 u k (fun h => absurd h.1 (by exact gz_m 40 (by omega))))).trans (by have h9 := q17 k (by exact gz_m 41 (by omega)); rw [show Int.toNat 0 + k = k from by exact gz_m 42 (by omega)] at h9; exact h9.trans ((p11 123 k (fun h => absurd h.1 (by exact gz_m 43 (by omega))))))) (fun k => (((p25 12 k (fun h => absurd h.1 (by exact gz_m 44 (by omega)))).trans (p17 12 k (fun h => absurd h.1 (by exact gz_m 45 (by omega))))).trans (p11 12 k (fun h => absurd h.1 (by exact gz_m 46 (by omega)))))), gh_rg_cp (q5.2.2.2.2.2.resolve_left (by exact gz_m 47 (by omega))) (fun k hk => ((p25 u k (fun h => absurd h.1 (by exact gz_m 48 (by omega))))).trans (by have h9 := q17 k (by exact gz_m 49 (by omega)); rw [show Int.toNat 0 + k = k from by exact gz_m 50 (by omega)] at h9; exact h9.trans ((p11 123 k (fun h => absurd h.1 (by exact gz_m 51 (by omega))))))), by exact gz_m 52 (by omega)⟩), (Or.inl (by exact gz_m 53 (by omega)))⟩⟩
set_option maxHeartbeats 8000000 in
set_option maxRecDepth 100000 in
theorem d_X12_show {ws0 : List Cond} {tb : String → gz_T} (hws : gc_Ws ws0) (htb : gc_tbs tb) (sh : gz_Sh) (ro : Nat → Nat) (I : gr_I) (J : gr_J) (A : gc_A) (hI : gc_Inv ro I) (u : Nat) (a1 : Int) (hb : gc_Base sh ro A) (S_u : sh[u]? = some (true, 1, 60)) (R_u : ro u = 37) (B_u : u < 1000000) (ha1 : 0 ≤ a1 ∧ a1 ≤ 7) (x0 : A 114 (Int.toNat a1) = some u) (x1 : u = 115 + Int.toNat a1) : ∃ r hₚ, gz_Ev ws0 tb 4 (yX12_show, cX12_show, 2, (some .int)) [.inr (.inr (some 0)), .inl a1] sh (gc_h sh I J A) r sh hₚ 0 0 ∧ (∃ (Iₚ : gr_I) (Jₚ : gr_J), hₚ = gc_h sh Iₚ Jₚ A ∧ gc_Inv ro Iₚ ∧ (∀ q j : Nat, ((q = 27 ∧ j = 1) ∨ q = 28 ∨ q = 22) ∨ Iₚ q j = I q j) ∧ (∀ q j : Nat, (False) ∨ Jₚ q j = J q j) ∧ (∃ z : Int, r = some (.inl z) ∧ (-1) ≤ z ∧ z ≤ 1000)) := by
  have FI : ∀ q j : Nat, ((q = 27 ∧ j = 1) ∨ q = 28 ∨ q = 22) ∨ I q j = I q j := fun _ _ => Or.inr rfl
  have FJ : ∀ q j : Nat, (False) ∨ J q j = J q j := fun _ _ => Or.inr rfl
  have A_0_0 : A 0 0 = some 1 := gc_bA_0_0 hb
  have A_0_11 : A 0 11 = some 114 := gc_bA_0_11 hb
  have A_0_12 : A 0 12 = some 124 := gc_bA_0_12 hb
  have A_0_2 : A 0 2 = some 27 := gc_bA_0_2 hb
  have B_0 : 0 < 1000000 := by decide
  have B_1 : 1 < 1000000 := by decide
  have B_114 : 114 < 1000000 := by decide
  have B_124 : 124 < 1000000 := by decide
  have B_27 : 27 < 1000000 := by decide
  have R_124 : ro 124 = 68 := gc_bR_124 hb
  have R_27 : ro 27 = 3 := gc_bR_27 hb
  have S_0 : sh[0]? = some (false, 12, 17) := gc_bS_0 hb
  have S_1 : sh[1]? = some (false, 8, 21) := gc_bS_1 hb
  have S_114 : sh[114]? = some (true, 7, 9) := gc_bS_114 hb
  have S_124 : sh[124]? = some (true, 1, 9) := gc_bS_124 hb
  have S_27 : sh[27]? = some (false, 9, 10) := gc_bS_27 hb
  have hD : gv_D (gc_E12 ws0 tb 3 (yX12_show, cX12_show, 2, (some .int)) kX12_show) := gq_of oX12_show
  refine gc_ev12 (d := 3) (l := kX12_show) (Po := fun r hₚ => (∃ (Iₚ : gr_I) (Jₚ : gr_J), hₚ = gc_h sh Iₚ Jₚ A ∧ gc_Inv ro Iₚ ∧ (∀ q j : Nat, ((q = 27 ∧ j = 1) ∨ q = 28 ∨ q = 22) ∨ Iₚ q j = I q j) ∧ (∀ q j : Nat, (False) ∨ Jₚ q j = J q j) ∧ (∃ z : Int, r = some (.inl z) ∧ (-1) ≤ z ∧ z ≤ 1000))) htb rfl (Nat.le_of_ble_eq_true rfl) ?_
  refine gv_run 1 true hD (pcₚ := 1) (lvₚ := [(0, .inr (.inr (some 0))), (1, .inl a1)]) (stₚ := [.inl a1]) (hₚ := gc_h sh I J A) (C := (True ∧ True)) rfl ⟨trivial, trivial⟩ ?_
  obtain ⟨r1, h1, E1, P1⟩ := d_X12_checkPlace (ws0 := ws0) (tb := tb) hws htb sh ro I J A hI  a1 hb   ⟨by exact gz_m 0 (by omega), by exact gz_m 1 (by omega)⟩  
  obtain ⟨rfl, rfl⟩ := P1
  refine gv_callS hD rfl (As := [.inl a1]) (st := []) rfl (gc_lS12 hws rfl) (Nat.le_of_ble_eq_true rfl) (gz_Ev_mono (d := 1) (by decide) E1) ?_
  show gv_X _ _ (4, [(0, .inr (.inr (some 0))), (1, .inl a1)], [], sh, gc_h sh I J A)
  refine gv_run 1 true hD (pcₚ := 5) (lvₚ := [(0, .inr (.inr (some 0))), (1, .inl a1)]) (stₚ := [.inr (.inr (some 0))]) (hₚ := gc_h sh I J A) (C := (True ∧ True)) rfl ⟨trivial, trivial⟩ ?_
  refine gv_get hD rfl rfl S_0 ⟨by decide, B_0⟩ (gc_hA S_0 rfl A_0_2) ?_
  show gv_X _ _ (8, [(0, .inr (.inr (some 0))), (1, .inl a1)], [.inr (.inr (some 27))], sh, gc_h sh I J A)
  refine gv_run 1 true hD (pcₚ := 9) (lvₚ := [(0, .inr (.inr (some 0))), (1, .inl a1)]) (stₚ := [.inl 0, .inr (.inr (some 27))]) (hₚ := gc_h sh I J A) (C := (True ∧ True)) rfl ⟨trivial, trivial⟩ ?_
  refine gv_put hD rfl rfl S_27 ⟨by decide, B_27⟩ rfl trivial ?_
  refine gc_st (k := 1) hI S_27 rfl R_27 (lo := 0) (hi := 1000) rfl rfl (by exact gz_m 2 (by omega)) (by exact gz_m 3 (by omega)) (fun I2 hI2 q3 p3 => ?_)
  have FI2 := gc_frs (W := fun q j => (q = 27 ∧ j = 1) ∨ q = 28 ∨ q = 22) FI (Or.inl ⟨rfl, rfl⟩) p3
  show gv_X _ _ (12, [(0, .inr (.inr (some 0))), (1, .inl a1)], [], sh, gc_h sh I2 J A)
  refine gv_run 1 true hD (pcₚ := 13) (lvₚ := [(0, .inr (.inr (some 0))), (1, .inl a1)]) (stₚ := [.inr (.inr (some 0))]) (hₚ := gc_h sh I2 J A) (C := (True ∧ True)) rfl ⟨trivial, trivial⟩ ?_
  refine gv_get hD rfl rfl S_0 ⟨by decide, B_0⟩ (gc_hA S_0 rfl A_0_12) ?_
  show gv_X _ _ (16, [(0, .inr (.inr (some 0))), (1, .inl a1)], [.inr (.inr (some 124))], sh, gc_h sh I2 J A)
  refine gv_run 1 true hD (pcₚ := 17) (lvₚ := [(0, .inr (.inr (some 0))), (1, .inl a1)]) (stₚ := [.inl a1, .inr (.inr (some 124))]) (hₚ := gc_h sh I2 J A) (C := (True ∧ True)) rfl ⟨trivial, trivial⟩ ?_
  have f4 := (gc_b_68 hI2 R_124 (Int.toNat a1))
  refine gv_iald hD rfl S_124 rfl ⟨by decide, B_124⟩ ⟨by exact gz_m 4 (by omega), by exact gz_m 5 (by omega)⟩ (gc_iI S_124 rfl) ?_
  show gv_X _ _ (18, [(0, .inr (.inr (some 0))), (1, .inl a1)], [.inl (I2 124 (Int.toNat a1))], sh, gc_h sh I2 J A)
  refine gv_if_ne (t := 23) hD rfl rfl ⟨by exact gz_m 6 (by omega), by exact gz_m 7 (by omega)⟩ (fun c5 => ?_) (fun c5 => ?_)
  · show gv_X _ _ (23, [(0, .inr (.inr (some 0))), (1, .inl a1)], [], sh, gc_h sh I2 J A)
    refine gv_run 1 true hD (pcₚ := 24) (lvₚ := [(0, .inr (.inr (some 0))), (1, .inl a1)]) (stₚ := [.inr (.inr (some 0))]) (hₚ := gc_h sh I2 J A) (C := (True ∧ True)) rfl ⟨trivial, trivial⟩ ?_
    refine gv_get hD rfl rfl S_0 ⟨by decide, B_0⟩ (gc_hA S_0 rfl A_0_0) ?_
    show gv_X _ _ (27, [(0, .inr (.inr (some 0))), (1, .inl a1)], [.inr (.inr (some 1))], sh, gc_h sh I2 J A)
    refine gv_run 1 true hD (pcₚ := 28) (lvₚ := [(0, .inr (.inr (some 0))), (1, .inl a1)]) (stₚ := [.inr (.inr (some 0)), .inr (.inr (some 1))]) (hₚ := gc_h sh I2 J A) (C := (True ∧ True)) rfl ⟨trivial, trivial⟩ ?_
    refine gv_get hD rfl rfl S_0 ⟨by decide, B_0⟩ (gc_hA S_0 rfl A_0_11) ?_
    show gv_X _ _ (31, [(0, .inr (.inr (some 0))), (1, .inl a1)], [.inr (.inr (some 114)), .inr (.inr (some 1))], sh, gc_h sh I2 J A)
    refine gv_run 1 true hD (pcₚ := 32) (lvₚ := [(0, .inr (.inr (some 0))), (1, .inl a1)]) (stₚ := [.inl a1, .inr (.inr (some 114)), .inr (.inr (some 1))]) (hₚ := gc_h sh I2 J A) (C := (True ∧ True)) rfl ⟨trivial, trivial⟩ ?_
    refine gv_aald hD rfl S_114 ⟨by decide, by decide⟩ ⟨by decide, B_114⟩ ⟨by exact gz_m 8 (by omega), by exact gz_m 9 (by omega)⟩ ((gc_aA S_114 rfl).trans x0) ?_
    show gv_X _ _ (33, [(0, .inr (.inr (some 0))), (1, .inl a1)], [.inr (.inr (some u)), .inr (.inr (some 1))], sh, gc_h sh I2 J A)
    refine gv_run 1 true hD (pcₚ := 34) (lvₚ := [(0, .inr (.inr (some 0))), (1, .inl a1)]) (stₚ := [.inr (.inr (some 0)), .inr (.inr (some u)), .inr (.inr (some 1))]) (hₚ := gc_h sh I2 J A) (C := (True ∧ True)) rfl ⟨trivial, trivial⟩ ?_
    refine gv_get hD rfl rfl S_0 ⟨by decide, B_0⟩ (gc_hA S_0 rfl A_0_12) ?_
    show gv_X _ _ (37, [(0, .inr (.inr (some 0))), (1, .inl a1)], [.inr (.inr (some 124)), .inr (.inr (some u)), .inr (.inr (some 1))], sh, gc_h sh I2 J A)
    refine gv_run 1 true hD (pcₚ := 38) (lvₚ := [(0, .inr (.inr (some 0))), (1, .inl a1)]) (stₚ := [.inl a1, .inr (.inr (some 124)), .inr (.inr (some u)), .inr (.inr (some 1))]) (hₚ := gc_h sh I2 J A) (C := (True ∧ True)) rfl ⟨trivial, trivial⟩ ?_
    have f7 := (gc_b_68 hI2 R_124 (Int.toNat a1))
    refine gv_iald hD rfl S_124 rfl ⟨by decide, B_124⟩ ⟨by exact gz_m 10 (by omega), by exact gz_m 11 (by omega)⟩ (gc_iI S_124 rfl) ?_
    show gv_X _ _ (39, [(0, .inr (.inr (some 0))), (1, .inl a1)], [.inl (I2 124 (Int.toNat a1)), .inr (.inr (some u)), .inr (.inr (some 1))], sh, gc_h sh I2 J A)
    refine gv_run 1 true hD (pcₚ := 40) (lvₚ := [(0, .inr (.inr (some 0))), (1, .inl a1)]) (stₚ := [.inr (.inr (some 0)), .inl (I2 124 (Int.toNat a1)), .inr (.inr (some u)), .inr (.inr (some 1))]) (hₚ := gc_h sh I2 J A) (C := (True ∧ True)) rfl ⟨trivial, trivial⟩ ?_
    refine gv_get hD rfl rfl S_0 ⟨by decide, B_0⟩ (gc_hA S_0 rfl A_0_2) ?_
    show gv_X _ _ (43, [(0, .inr (.inr (some 0))), (1, .inl a1)], [.inr (.inr (some 27)), .inl (I2 124 (Int.toNat a1)), .inr (.inr (some u)), .inr (.inr (some 1))], sh, gc_h sh I2 J A)
    obtain ⟨r8, h8, E8, P8⟩ := d_X8_writeTree (ws0 := ws0) (tb := tb) hws htb sh ro I2 J A hI2  60 u ((I2 124 (Int.toNat a1))) 27 hb S_u R_u B_u (by decide) (gc_b27 hb)  ⟨by exact gz_m 12 (by omega), by exact gz_m 13 (by omega)⟩ (by exact gz_m 14 (by omega)) 
    obtain ⟨I9, J10, rfl, hI9, g8, k8, rfl⟩ := P8
    have FI9 := gc_frc (W := fun q j => (q = 27 ∧ j = 1) ∨ q = 28 ∨ q = 22) (V := fun q j => (q = 27 ∧ j = 1) ∨ q = 28 ∨ q = 22) FI2 (fun q j h => (h.elim (fun h => (Or.inl h)) (fun h => (h.elim (fun h => (Or.inr (Or.inl h))) (fun h => (Or.inr (Or.inr h))))))) g8
    obtain rfl : J = J10 := funext fun q => funext fun j => ((k8 q j).resolve_left id).symm
    refine gv_callV hD rfl (As := [.inr (.inr (some u)), .inl (I2 124 (Int.toNat a1)), .inr (.inr (some 27))]) (st := []) rfl B_1 S_1 rfl (gc_lV12 hws rfl) (Nat.le_of_ble_eq_true rfl) (gz_Ev_mono (d := 3) (by decide) E8) ?_
    show gv_X _ _ (46, [(0, .inr (.inr (some 0))), (1, .inl a1)], [], sh, gc_h sh I9 J A)
    refine gv_run 1 true hD (pcₚ := 47) (lvₚ := [(0, .inr (.inr (some 0))), (1, .inl a1)]) (stₚ := [.inr (.inr (some 0))]) (hₚ := gc_h sh I9 J A) (C := (True ∧ True)) rfl ⟨trivial, trivial⟩ ?_
    refine gv_get hD rfl rfl S_0 ⟨by decide, B_0⟩ (gc_hA S_0 rfl A_0_2) ?_
    show gv_X _ _ (50, [(0, .inr (.inr (some 0))), (1, .inl a1)], [.inr (.inr (some 27))], sh, gc_h sh I9 J A)
    have f11 := (gc_b_3_1 hI9 R_27)
    refine gv_get hD rfl rfl S_27 ⟨by decide, B_27⟩ (gc_hI S_27 rfl) ?_
    show gv_X _ _ (53, [(0, .inr (.inr (some 0))), (1, .inl a1)], [.inl (I9 27 1)], sh, gc_h sh I9 J A)
    exact gv_iret hD rfl ⟨I9, J, rfl, hI9, FI9, FJ, ⟨_, rfl, by exact gz_m 15 (by omega)⟩⟩
  · show gv_X _ _ (21, [(0, .inr (.inr (some 0))), (1, .inl a1)], [], sh, gc_h sh I2 J A)
    refine gv_run 1 true hD (pcₚ := 22) (lvₚ := [(0, .inr (.inr (some 0))), (1, .inl a1)]) (stₚ := [.inl (-1)]) (hₚ := gc_h sh I2 J A) (C := (True ∧ True)) rfl ⟨trivial, trivial⟩ ?_
    exact gv_iret hD rfl ⟨I2, J, rfl, hI2, FI2, FJ, ⟨_, rfl, by exact gz_m 16 (by omega)⟩⟩
set_option maxHeartbeats 8000000 in
set_option maxRecDepth 100000 in
theorem d_X12_same {ws0 : List Cond} {tb : String → gz_T} (hws : gc_Ws ws0) (htb : gc_tbs tb) (sh : gz_Sh) (ro : Nat → Nat) (I : gr_I) (J : gr_J) (A : gc_A) (hI : gc_Inv ro I) (u : Nat) (v : Nat) (a1 : Int) (a2 : Int) (hb : gc_Base sh ro A) (S_u : sh[u]? = some (true, 1, 60)) (R_u : ro u = 37) (B_u : u < 1000000) (S_v : sh[v]? = some (true, 1, 60)) (R_v : ro v = 37) (B_v : v < 1000000) (ha1 : 0 ≤ a1 ∧ a1 ≤ 7) (ha2 : 0 ≤ a2 ∧ a2 ≤ 7) (x0 : A 114 (Int.toNat a1) = some u) (x1 : u = 115 + Int.toNat a1) (x2 : A 114 (Int.toNat a2) = some v) (x3 : v = 115 + Int.toNat a2) : ∃ r hₚ, gz_Ev ws0 tb 2 (yX12_same, cX12_same, 4, (some .boolean)) [.inr (.inr (some 0)), .inl a1, .inl a2] sh (gc_h sh I J A) r sh hₚ 0 0 ∧ (hₚ = gc_h sh I J A ∧ (∃ z : Int, r = some (.inl z) ∧ 0 ≤ z ∧ z ≤ 1)) := by
  have A_0_11 : A 0 11 = some 114 := gc_bA_0_11 hb
  have A_0_12 : A 0 12 = some 124 := gc_bA_0_12 hb
  have B_0 : 0 < 1000000 := by decide
  have B_114 : 114 < 1000000 := by decide
  have B_124 : 124 < 1000000 := by decide
  have R_124 : ro 124 = 68 := gc_bR_124 hb
  have S_0 : sh[0]? = some (false, 12, 17) := gc_bS_0 hb
  have S_114 : sh[114]? = some (true, 7, 9) := gc_bS_114 hb
  have S_124 : sh[124]? = some (true, 1, 9) := gc_bS_124 hb
  have hD : gv_D (gc_E12 ws0 tb 1 (yX12_same, cX12_same, 4, (some .boolean)) kX12_same) := gq_of oX12_same
  refine gc_ev12 (d := 1) (l := kX12_same) (Po := fun r hₚ => (hₚ = gc_h sh I J A ∧ (∃ z : Int, r = some (.inl z) ∧ 0 ≤ z ∧ z ≤ 1))) htb rfl (Nat.le_of_ble_eq_true rfl) ?_
  have L27 : ∀ (n9 : Nat) (v3_1 : Int), (61 - v3_1).toNat < n9 → ((0 ≤ a1 ∧ a1 ≤ 7) ∧ (0 ≤ a2 ∧ a2 ≤ 7) ∧ (0 ≤ v3_1 ∧ v3_1 ≤ 60)) → gv_X (gc_E12 ws0 tb 1 (yX12_same, cX12_same, 4, (some .boolean)) kX12_same) (gv_Q cX12_same (some .boolean) sh (fun r hₚ => (hₚ = gc_h sh I J A ∧ (∃ z : Int, r = some (.inl z) ∧ 0 ≤ z ∧ z ≤ 1)))) (27, [(0, .inr (.inr (some 0))), (1, .inl a1), (2, .inl a2), (3, .inl v3_1)], [], sh, gc_h sh I J A) := by
    intro n9
    induction n9 with
    | zero => intro v3_1 hn; exact gz_m 0 (by omega)
    | succ n9 ih27 =>
      intro v3_1 hn m_1
      obtain ⟨ha1_1, ha2_1, hv3_1⟩ := m_1
      refine gv_run 2 true hD (pcₚ := 29) (lvₚ := [(0, .inr (.inr (some 0))), (1, .inl a1), (2, .inl a2), (3, .inl v3_1)]) (stₚ := [.inr (.inr (some 0)), .inl v3_1]) (hₚ := gc_h sh I J A) (C := ((True ∧ True) ∧ True)) rfl ⟨⟨trivial, trivial⟩, trivial⟩ ?_
      refine gv_get hD rfl rfl S_0 ⟨by decide, B_0⟩ (gc_hA S_0 rfl A_0_12) ?_
      show gv_X _ _ (32, [(0, .inr (.inr (some 0))), (1, .inl a1), (2, .inl a2), (3, .inl v3_1)], [.inr (.inr (some 124)), .inl v3_1], sh, gc_h sh I J A)
      refine gv_run 1 true hD (pcₚ := 33) (lvₚ := [(0, .inr (.inr (some 0))), (1, .inl a1), (2, .inl a2), (3, .inl v3_1)]) (stₚ := [.inl a1, .inr (.inr (some 124)), .inl v3_1]) (hₚ := gc_h sh I J A) (C := (True ∧ True)) rfl ⟨trivial, trivial⟩ ?_
      have f2 := (gc_b_68 hI R_124 (Int.toNat a1))
      refine gv_iald hD rfl S_124 rfl ⟨by decide, B_124⟩ ⟨by exact gz_m 1 (by omega), by exact gz_m 2 (by omega)⟩ (gc_iI S_124 rfl) ?_
      show gv_X _ _ (34, [(0, .inr (.inr (some 0))), (1, .inl a1), (2, .inl a2), (3, .inl v3_1)], [.inl (I 124 (Int.toNat a1)), .inl v3_1], sh, gc_h sh I J A)
      refine gv_icmp_ge (t := 64) hD rfl rfl ⟨⟨by exact gz_m 3 (by omega), by exact gz_m 4 (by omega)⟩, ⟨by exact gz_m 5 (by omega), by exact gz_m 6 (by omega)⟩⟩ (fun c3 => ?_) (fun c3 => ?_)
      · show gv_X _ _ (64, [(0, .inr (.inr (some 0))), (1, .inl a1), (2, .inl a2), (3, .inl v3_1)], [], sh, gc_h sh I J A)
        refine gv_run 1 true hD (pcₚ := 65) (lvₚ := [(0, .inr (.inr (some 0))), (1, .inl a1), (2, .inl a2), (3, .inl v3_1)]) (stₚ := [.inl 1]) (hₚ := gc_h sh I J A) (C := (True ∧ True)) rfl ⟨trivial, trivial⟩ ?_
        exact gv_zret hD rfl (by exact gz_m 7 (by omega)) ⟨rfl, ⟨_, rfl, by exact gz_m 8 (by omega)⟩⟩
      · show gv_X _ _ (37, [(0, .inr (.inr (some 0))), (1, .inl a1), (2, .inl a2), (3, .inl v3_1)], [], sh, gc_h sh I J A)
        refine gv_run 1 true hD (pcₚ := 38) (lvₚ := [(0, .inr (.inr (some 0))), (1, .inl a1), (2, .inl a2), (3, .inl v3_1)]) (stₚ := [.inr (.inr (some 0))]) (hₚ := gc_h sh I J A) (C := (True ∧ True)) rfl ⟨trivial, trivial⟩ ?_
        refine gv_get hD rfl rfl S_0 ⟨by decide, B_0⟩ (gc_hA S_0 rfl A_0_11) ?_
        show gv_X _ _ (41, [(0, .inr (.inr (some 0))), (1, .inl a1), (2, .inl a2), (3, .inl v3_1)], [.inr (.inr (some 114))], sh, gc_h sh I J A)
        refine gv_run 1 true hD (pcₚ := 42) (lvₚ := [(0, .inr (.inr (some 0))), (1, .inl a1), (2, .inl a2), (3, .inl v3_1)]) (stₚ := [.inl a1, .inr (.inr (some 114))]) (hₚ := gc_h sh I J A) (C := (True ∧ True)) rfl ⟨trivial, trivial⟩ ?_
        refine gv_aald hD rfl S_114 ⟨by decide, by decide⟩ ⟨by decide, B_114⟩ ⟨by exact gz_m 9 (by omega), by exact gz_m 10 (by omega)⟩ ((gc_aA S_114 rfl).trans x0) ?_
        show gv_X _ _ (43, [(0, .inr (.inr (some 0))), (1, .inl a1), (2, .inl a2), (3, .inl v3_1)], [.inr (.inr (some u))], sh, gc_h sh I J A)
        refine gv_run 1 true hD (pcₚ := 44) (lvₚ := [(0, .inr (.inr (some 0))), (1, .inl a1), (2, .inl a2), (3, .inl v3_1)]) (stₚ := [.inl v3_1, .inr (.inr (some u))]) (hₚ := gc_h sh I J A) (C := (True ∧ True)) rfl ⟨trivial, trivial⟩ ?_
        have f5 := (show 0 ≤ I u (Int.toNat v3_1) ∧ I u (Int.toNat v3_1) ≤ 95 from gc_in2 hI R_u rfl rfl rfl)
        refine gv_iald hD rfl S_u rfl ⟨by decide, B_u⟩ ⟨by exact gz_m 11 (by omega), by exact gz_m 12 (by omega)⟩ (gc_iI S_u rfl) ?_
        show gv_X _ _ (45, [(0, .inr (.inr (some 0))), (1, .inl a1), (2, .inl a2), (3, .inl v3_1)], [.inl (I u (Int.toNat v3_1))], sh, gc_h sh I J A)
        refine gv_run 1 true hD (pcₚ := 46) (lvₚ := [(0, .inr (.inr (some 0))), (1, .inl a1), (2, .inl a2), (3, .inl v3_1)]) (stₚ := [.inr (.inr (some 0)), .inl (I u (Int.toNat v3_1))]) (hₚ := gc_h sh I J A) (C := (True ∧ True)) rfl ⟨trivial, trivial⟩ ?_
        refine gv_get hD rfl rfl S_0 ⟨by decide, B_0⟩ (gc_hA S_0 rfl A_0_11) ?_
        show gv_X _ _ (49, [(0, .inr (.inr (some 0))), (1, .inl a1), (2, .inl a2), (3, .inl v3_1)], [.inr (.inr (some 114)), .inl (I u (Int.toNat v3_1))], sh, gc_h sh I J A)
        refine gv_run 1 true hD (pcₚ := 50) (lvₚ := [(0, .inr (.inr (some 0))), (1, .inl a1), (2, .inl a2), (3, .inl v3_1)]) (stₚ := [.inl a2, .inr (.inr (some 114)), .inl (I u (Int.toNat v3_1))]) (hₚ := gc_h sh I J A) (C := (True ∧ True)) rfl ⟨trivial, trivial⟩ ?_
        refine gv_aald hD rfl S_114 ⟨by decide, by decide⟩ ⟨by decide, B_114⟩ ⟨by exact gz_m 13 (by omega), by exact gz_m 14 (by omega)⟩ ((gc_aA S_114 rfl).trans x2) ?_
        show gv_X _ _ (51, [(0, .inr (.inr (some 0))), (1, .inl a1), (2, .inl a2), (3, .inl v3_1)], [.inr (.inr (some v)), .inl (I u (Int.toNat v3_1))], sh, gc_h sh I J A)
        refine gv_run 1 true hD (pcₚ := 52) (lvₚ := [(0, .inr (.inr (some 0))), (1, .inl a1), (2, .inl a2), (3, .inl v3_1)]) (stₚ := [.inl v3_1, .inr (.inr (some v)), .inl (I u (Int.toNat v3_1))]) (hₚ := gc_h sh I J A) (C := (True ∧ True)) rfl ⟨trivial, trivial⟩ ?_
        have f7 := (show 0 ≤ I v (Int.toNat v3_1) ∧ I v (Int.toNat v3_1) ≤ 95 from gc_in2 hI R_v rfl rfl rfl)
        refine gv_iald hD rfl S_v rfl ⟨by decide, B_v⟩ ⟨by exact gz_m 15 (by omega), by exact gz_m 16 (by omega)⟩ (gc_iI S_v rfl) ?_
        show gv_X _ _ (53, [(0, .inr (.inr (some 0))), (1, .inl a1), (2, .inl a2), (3, .inl v3_1)], [.inl (I v (Int.toNat v3_1)), .inl (I u (Int.toNat v3_1))], sh, gc_h sh I J A)
        refine gv_icmp_eq (t := 58) hD rfl rfl ⟨⟨by exact gz_m 17 (by omega), by exact gz_m 18 (by omega)⟩, ⟨by exact gz_m 19 (by omega), by exact gz_m 20 (by omega)⟩⟩ (fun c8 => ?_) (fun c8 => ?_)
        · show gv_X _ _ (58, [(0, .inr (.inr (some 0))), (1, .inl a1), (2, .inl a2), (3, .inl v3_1)], [], sh, gc_h sh I J A)
          refine gv_run 2 true hD (pcₚ := 27) (lvₚ := [(3, .inl (v3_1 + 1)), (0, .inr (.inr (some 0))), (1, .inl a1), (2, .inl a2)]) (stₚ := []) (hₚ := gc_h sh I J A) (C := ((True ∧ True) ∧ True)) rfl ⟨⟨trivial, trivial⟩, trivial⟩ ?_
          refine gv_pick [1, 2, 3, 0] rfl ?_
          exact ih27 (v3_1 + 1) (by exact gz_m 21 (by omega)) (by exact gz_m 22 (by omega))
        · show gv_X _ _ (56, [(0, .inr (.inr (some 0))), (1, .inl a1), (2, .inl a2), (3, .inl v3_1)], [], sh, gc_h sh I J A)
          refine gv_run 1 true hD (pcₚ := 57) (lvₚ := [(0, .inr (.inr (some 0))), (1, .inl a1), (2, .inl a2), (3, .inl v3_1)]) (stₚ := [.inl 0]) (hₚ := gc_h sh I J A) (C := (True ∧ True)) rfl ⟨trivial, trivial⟩ ?_
          exact gv_zret hD rfl (by exact gz_m 23 (by omega)) ⟨rfl, ⟨_, rfl, by exact gz_m 24 (by omega)⟩⟩
  refine gv_run 1 true hD (pcₚ := 1) (lvₚ := [(0, .inr (.inr (some 0))), (1, .inl a1), (2, .inl a2)]) (stₚ := [.inl a1]) (hₚ := gc_h sh I J A) (C := (True ∧ True)) rfl ⟨trivial, trivial⟩ ?_
  obtain ⟨r9, h9, E9, P9⟩ := d_X12_checkPlace (ws0 := ws0) (tb := tb) hws htb sh ro I J A hI  a1 hb   ⟨by exact gz_m 25 (by omega), by exact gz_m 26 (by omega)⟩  
  obtain ⟨rfl, rfl⟩ := P9
  refine gv_callS hD rfl (As := [.inl a1]) (st := []) rfl (gc_lS12 hws rfl) (Nat.le_of_ble_eq_true rfl) (gz_Ev_mono (d := 1) (by decide) E9) ?_
  show gv_X _ _ (4, [(0, .inr (.inr (some 0))), (1, .inl a1), (2, .inl a2)], [], sh, gc_h sh I J A)
  refine gv_run 1 true hD (pcₚ := 5) (lvₚ := [(0, .inr (.inr (some 0))), (1, .inl a1), (2, .inl a2)]) (stₚ := [.inl a2]) (hₚ := gc_h sh I J A) (C := (True ∧ True)) rfl ⟨trivial, trivial⟩ ?_
  obtain ⟨r10, h10, E10, P10⟩ := d_X12_checkPlace (ws0 := ws0) (tb := tb) hws htb sh ro I J A hI  a2 hb   ⟨by exact gz_m 27 (by omega), by exact gz_m 28 (by omega)⟩  
  obtain ⟨rfl, rfl⟩ := P10
  refine gv_callS hD rfl (As := [.inl a2]) (st := []) rfl (gc_lS12 hws rfl) (Nat.le_of_ble_eq_true rfl) (gz_Ev_mono (d := 1) (by decide) E10) ?_
  show gv_X _ _ (8, [(0, .inr (.inr (some 0))), (1, .inl a1), (2, .inl a2)], [], sh, gc_h sh I J A)
  refine gv_run 1 true hD (pcₚ := 9) (lvₚ := [(0, .inr (.inr (some 0))), (1, .inl a1), (2, .inl a2)]) (stₚ := [.inr (.inr (some 0))]) (hₚ := gc_h sh I J A) (C := (True ∧ True)) rfl ⟨trivial, trivial⟩ ?_
  refine gv_get hD rfl rfl S_0 ⟨by decide, B_0⟩ (gc_hA S_0 rfl A_0_12) ?_
  show gv_X _ _ (12, [(0, .inr (.inr (some 0))), (1, .inl a1), (2, .inl a2)], [.inr (.inr (some 124))], sh, gc_h sh I J A)
  refine gv_run 1 true hD (pcₚ := 13) (lvₚ := [(0, .inr (.inr (some 0))), (1, .inl a1), (2, .inl a2)]) (stₚ := [.inl a1, .inr (.inr (some 124))]) (hₚ := gc_h sh I J A) (C := (True ∧ True)) rfl ⟨trivial, trivial⟩ ?_
  have f11 := (gc_b_68 hI R_124 (Int.toNat a1))
  refine gv_iald hD rfl S_124 rfl ⟨by decide, B_124⟩ ⟨by exact gz_m 29 (by omega), by exact gz_m 30 (by omega)⟩ (gc_iI S_124 rfl) ?_
  show gv_X _ _ (14, [(0, .inr (.inr (some 0))), (1, .inl a1), (2, .inl a2)], [.inl (I 124 (Int.toNat a1))], sh, gc_h sh I J A)
  refine gv_run 1 true hD (pcₚ := 15) (lvₚ := [(0, .inr (.inr (some 0))), (1, .inl a1), (2, .inl a2)]) (stₚ := [.inr (.inr (some 0)), .inl (I 124 (Int.toNat a1))]) (hₚ := gc_h sh I J A) (C := (True ∧ True)) rfl ⟨trivial, trivial⟩ ?_
  refine gv_get hD rfl rfl S_0 ⟨by decide, B_0⟩ (gc_hA S_0 rfl A_0_12) ?_
  show gv_X _ _ (18, [(0, .inr (.inr (some 0))), (1, .inl a1), (2, .inl a2)], [.inr (.inr (some 124)), .inl (I 124 (Int.toNat a1))], sh, gc_h sh I J A)
  refine gv_run 1 true hD (pcₚ := 19) (lvₚ := [(0, .inr (.inr (some 0))), (1, .inl a1), (2, .inl a2)]) (stₚ := [.inl a2, .inr (.inr (some 124)), .inl (I 124 (Int.toNat a1))]) (hₚ := gc_h sh I J A) (C := (True ∧ True)) rfl ⟨trivial, trivial⟩ ?_
  have f12 := (gc_b_68 hI R_124 (Int.toNat a2))
  refine gv_iald hD rfl S_124 rfl ⟨by decide, B_124⟩ ⟨by exact gz_m 31 (by omega), by exact gz_m 32 (by omega)⟩ (gc_iI S_124 rfl) ?_
  show gv_X _ _ (20, [(0, .inr (.inr (some 0))), (1, .inl a1), (2, .inl a2)], [.inl (I 124 (Int.toNat a2)), .inl (I 124 (Int.toNat a1))], sh, gc_h sh I J A)
  refine gv_icmp_eq (t := 25) hD rfl rfl ⟨⟨by exact gz_m 33 (by omega), by exact gz_m 34 (by omega)⟩, ⟨by exact gz_m 35 (by omega), by exact gz_m 36 (by omega)⟩⟩ (fun c13 => ?_) (fun c13 => ?_)
  · show gv_X _ _ (25, [(0, .inr (.inr (some 0))), (1, .inl a1), (2, .inl a2)], [], sh, gc_h sh I J A)
    refine gv_run 2 true hD (pcₚ := 27) (lvₚ := [(3, .inl 0), (0, .inr (.inr (some 0))), (1, .inl a1), (2, .inl a2)]) (stₚ := []) (hₚ := gc_h sh I J A) (C := ((True ∧ True) ∧ True)) rfl ⟨⟨trivial, trivial⟩, trivial⟩ ?_
    refine gv_pick [1, 2, 3, 0] rfl ?_
    exact L27 _ 0 (Nat.lt_succ_self _) (by exact gz_m 37 (by omega))
  · show gv_X _ _ (23, [(0, .inr (.inr (some 0))), (1, .inl a1), (2, .inl a2)], [], sh, gc_h sh I J A)
    refine gv_run 1 true hD (pcₚ := 24) (lvₚ := [(0, .inr (.inr (some 0))), (1, .inl a1), (2, .inl a2)]) (stₚ := [.inl 0]) (hₚ := gc_h sh I J A) (C := (True ∧ True)) rfl ⟨trivial, trivial⟩ ?_
    exact gv_zret hD rfl (by exact gz_m 38 (by omega)) ⟨rfl, ⟨_, rfl, by exact gz_m 39 (by omega)⟩⟩
set_option maxHeartbeats 8000000 in
set_option maxRecDepth 100000 in
theorem d_X12_candidate {ws0 : List Cond} {tb : String → gz_T} (hws : gc_Ws ws0) (htb : gc_tbs tb) (sh : gz_Sh) (ro : Nat → Nat) (I : gr_I) (J : gr_J) (A : gc_A) (hI : gc_Inv ro I) (a1 : Int) (hb : gc_Base sh ro A) (ha1 : (-2147483648) ≤ a1 ∧ a1 ≤ 2147483647)  : ∃ r hₚ, gz_Ev ws0 tb 3 (yX12_candidate, cX12_candidate, 2, (some .int)) [.inr (.inr (some 0)), .inl a1] sh (gc_h sh I J A) r sh hₚ 0 0 ∧ (∃ (Iₚ : gr_I) (Jₚ : gr_J), hₚ = gc_h sh Iₚ Jₚ A ∧ gc_Inv ro Iₚ ∧ (∀ q j : Nat, ((q = 27 ∧ j = 1) ∨ q = 28) ∨ Iₚ q j = I q j) ∧ (∀ q j : Nat, (False) ∨ Jₚ q j = J q j) ∧ (∃ z : Int, r = some (.inl z) ∧ (-1) ≤ z ∧ z ≤ 1000)) := by
  have FI : ∀ q j : Nat, ((q = 27 ∧ j = 1) ∨ q = 28) ∨ I q j = I q j := fun _ _ => Or.inr rfl
  have FJ : ∀ q j : Nat, (False) ∨ J q j = J q j := fun _ _ => Or.inr rfl
  have A_0_13 : A 0 13 = some 125 := gc_bA_0_13 hb
  have A_0_14 : A 0 14 = some 142 := gc_bA_0_14 hb
  have A_0_2 : A 0 2 = some 27 := gc_bA_0_2 hb
  have B_0 : 0 < 1000000 := by decide
  have B_125 : 125 < 1000000 := by decide
  have B_142 : 142 < 1000000 := by decide
  have B_27 : 27 < 1000000 := by decide
  have R_0 : ro 0 = 76 := gc_bR_0 hb
  have R_142 : ro 142 = 69 := gc_bR_142 hb
  have R_27 : ro 27 = 3 := gc_bR_27 hb
  have S_0 : sh[0]? = some (false, 12, 17) := gc_bS_0 hb
  have S_125 : sh[125]? = some (true, 6, 16) := gc_bS_125 hb
  have S_142 : sh[142]? = some (true, 1, 16) := gc_bS_142 hb
  have S_27 : sh[27]? = some (false, 9, 10) := gc_bS_27 hb
  have hD : gv_D (gc_E12 ws0 tb 2 (yX12_candidate, cX12_candidate, 2, (some .int)) kX12_candidate) := gq_of oX12_candidate
  refine gc_ev12 (d := 2) (l := kX12_candidate) (Po := fun r hₚ => (∃ (Iₚ : gr_I) (Jₚ : gr_J), hₚ = gc_h sh Iₚ Jₚ A ∧ gc_Inv ro Iₚ ∧ (∀ q j : Nat, ((q = 27 ∧ j = 1) ∨ q = 28) ∨ Iₚ q j = I q j) ∧ (∀ q j : Nat, (False) ∨ Jₚ q j = J q j) ∧ (∃ z : Int, r = some (.inl z) ∧ (-1) ≤ z ∧ z ≤ 1000))) htb rfl (Nat.le_of_ble_eq_true rfl) ?_
  have L20 : ∀ (I1 : gr_I) (J2 : gr_J) , gc_Inv ro I1 → (∀ q j : Nat, ((q = 27 ∧ j = 1) ∨ q = 28) ∨ I1 q j = I q j) → (∀ q j : Nat, (False) ∨ J2 q j = J q j) → gv_X (gc_E12 ws0 tb 2 (yX12_candidate, cX12_candidate, 2, (some .int)) kX12_candidate) (gv_Q cX12_candidate (some .int) sh (fun r hₚ => (∃ (Iₚ : gr_I) (Jₚ : gr_J), hₚ = gc_h sh Iₚ Jₚ A ∧ gc_Inv ro Iₚ ∧ (∀ q j : Nat, ((q = 27 ∧ j = 1) ∨ q = 28) ∨ Iₚ q j = I q j) ∧ (∀ q j : Nat, (False) ∨ Jₚ q j = J q j) ∧ (∃ z : Int, r = some (.inl z) ∧ (-1) ≤ z ∧ z ≤ 1000)))) (20, [], [], sh, gc_h sh I1 J2 A) := by
    intro I1 J2 hI1 FI1 FJ2
    refine gv_run 1 true hD (pcₚ := 21) (lvₚ := []) (stₚ := [.inl (-1)]) (hₚ := gc_h sh I1 J2 A) (C := (True ∧ True)) rfl ⟨trivial, trivial⟩ ?_
    exact gv_iret hD rfl ⟨I1, J2, rfl, hI1, FI1, FJ2, ⟨_, rfl, by exact gz_m 0 (by omega)⟩⟩
  refine gv_run 1 true hD (pcₚ := 1) (lvₚ := [(0, .inr (.inr (some 0))), (1, .inl a1)]) (stₚ := [.inr (.inr (some 0))]) (hₚ := gc_h sh I J A) (C := (True ∧ True)) rfl ⟨trivial, trivial⟩ ?_
  refine gv_get hD rfl rfl S_0 ⟨by decide, B_0⟩ (gc_hA S_0 rfl A_0_2) ?_
  show gv_X _ _ (4, [(0, .inr (.inr (some 0))), (1, .inl a1)], [.inr (.inr (some 27))], sh, gc_h sh I J A)
  refine gv_run 1 true hD (pcₚ := 5) (lvₚ := [(0, .inr (.inr (some 0))), (1, .inl a1)]) (stₚ := [.inl 0, .inr (.inr (some 27))]) (hₚ := gc_h sh I J A) (C := (True ∧ True)) rfl ⟨trivial, trivial⟩ ?_
  refine gv_put hD rfl rfl S_27 ⟨by decide, B_27⟩ rfl trivial ?_
  refine gc_st (k := 1) hI S_27 rfl R_27 (lo := 0) (hi := 1000) rfl rfl (by exact gz_m 1 (by omega)) (by exact gz_m 2 (by omega)) (fun I4 hI4 q5 p5 => ?_)
  have FI4 := gc_frs (W := fun q j => (q = 27 ∧ j = 1) ∨ q = 28) FI (Or.inl ⟨rfl, rfl⟩) p5
  show gv_X _ _ (8, [(0, .inr (.inr (some 0))), (1, .inl a1)], [], sh, gc_h sh I4 J A)
  refine gv_run 1 true hD (pcₚ := 9) (lvₚ := [(0, .inr (.inr (some 0))), (1, .inl a1)]) (stₚ := [.inl a1]) (hₚ := gc_h sh I4 J A) (C := (True ∧ True)) rfl ⟨trivial, trivial⟩ ?_
  refine gv_if_lt (t := 20) hD rfl rfl ⟨by exact gz_m 3 (by omega), by exact gz_m 4 (by omega)⟩ (fun c6 => ?_) (fun c6 => ?_)
  · show gv_X _ _ (20, [(0, .inr (.inr (some 0))), (1, .inl a1)], [], sh, gc_h sh I4 J A)
    refine gv_pick [] rfl ?_
    exact L20 I4 J hI4 FI4 FJ
  · show gv_X _ _ (12, [(0, .inr (.inr (some 0))), (1, .inl a1)], [], sh, gc_h sh I4 J A)
    refine gv_run 2 true hD (pcₚ := 14) (lvₚ := [(0, .inr (.inr (some 0))), (1, .inl a1)]) (stₚ := [.inr (.inr (some 0)), .inl a1]) (hₚ := gc_h sh I4 J A) (C := ((True ∧ True) ∧ True)) rfl ⟨⟨trivial, trivial⟩, trivial⟩ ?_
    have f7 := (gc_b_76_15 hI4 R_0)
    refine gv_get hD rfl rfl S_0 ⟨by decide, B_0⟩ (gc_hI S_0 rfl) ?_
    show gv_X _ _ (17, [(0, .inr (.inr (some 0))), (1, .inl a1)], [.inl (I4 0 15), .inl a1], sh, gc_h sh I4 J A)
    refine gv_icmp_lt (t := 22) hD rfl rfl ⟨⟨by exact gz_m 5 (by omega), by exact gz_m 6 (by omega)⟩, ⟨by exact gz_m 7 (by omega), by exact gz_m 8 (by omega)⟩⟩ (fun c8 => ?_) (fun c8 => ?_)
    · show gv_X _ _ (22, [(0, .inr (.inr (some 0))), (1, .inl a1)], [], sh, gc_h sh I4 J A)
      refine gv_run 1 true hD (pcₚ := 23) (lvₚ := [(0, .inr (.inr (some 0))), (1, .inl a1)]) (stₚ := [.inr (.inr (some 0))]) (hₚ := gc_h sh I4 J A) (C := (True ∧ True)) rfl ⟨trivial, trivial⟩ ?_
      refine gv_get hD rfl rfl S_0 ⟨by decide, B_0⟩ (gc_hA S_0 rfl A_0_2) ?_
      show gv_X _ _ (26, [(0, .inr (.inr (some 0))), (1, .inl a1)], [.inr (.inr (some 27))], sh, gc_h sh I4 J A)
      refine gv_run 1 true hD (pcₚ := 27) (lvₚ := [(0, .inr (.inr (some 0))), (1, .inl a1)]) (stₚ := [.inr (.inr (some 0)), .inr (.inr (some 27))]) (hₚ := gc_h sh I4 J A) (C := (True ∧ True)) rfl ⟨trivial, trivial⟩ ?_
      refine gv_get hD rfl rfl S_0 ⟨by decide, B_0⟩ (gc_hA S_0 rfl A_0_13) ?_
      show gv_X _ _ (30, [(0, .inr (.inr (some 0))), (1, .inl a1)], [.inr (.inr (some 125)), .inr (.inr (some 27))], sh, gc_h sh I4 J A)
      refine gv_run 1 true hD (pcₚ := 31) (lvₚ := [(0, .inr (.inr (some 0))), (1, .inl a1)]) (stₚ := [.inl a1, .inr (.inr (some 125)), .inr (.inr (some 27))]) (hₚ := gc_h sh I4 J A) (C := (True ∧ True)) rfl ⟨trivial, trivial⟩ ?_
      obtain ⟨t9_, A_t9, S_t9, R_t9, B_t9, D_t9⟩ := gh_cand hb (Int.toNat a1) (by exact gz_m 9 (by omega))
      refine gv_aald hD rfl S_125 ⟨by decide, by decide⟩ ⟨by decide, B_125⟩ ⟨by exact gz_m 10 (by omega), by exact gz_m 11 (by omega)⟩ ((gc_aA S_125 rfl).trans A_t9) ?_
      show gv_X _ _ (32, [(0, .inr (.inr (some 0))), (1, .inl a1)], [.inr (.inr (some t9_)), .inr (.inr (some 27))], sh, gc_h sh I4 J A)
      refine gv_run 2 true hD (pcₚ := 34) (lvₚ := [(0, .inr (.inr (some 0))), (1, .inl a1)]) (stₚ := [.inr (.inr (some 0)), .inl 0, .inr (.inr (some t9_)), .inr (.inr (some 27))]) (hₚ := gc_h sh I4 J A) (C := ((True ∧ True) ∧ True)) rfl ⟨⟨trivial, trivial⟩, trivial⟩ ?_
      refine gv_get hD rfl rfl S_0 ⟨by decide, B_0⟩ (gc_hA S_0 rfl A_0_14) ?_
      show gv_X _ _ (37, [(0, .inr (.inr (some 0))), (1, .inl a1)], [.inr (.inr (some 142)), .inl 0, .inr (.inr (some t9_)), .inr (.inr (some 27))], sh, gc_h sh I4 J A)
      refine gv_run 1 true hD (pcₚ := 38) (lvₚ := [(0, .inr (.inr (some 0))), (1, .inl a1)]) (stₚ := [.inl a1, .inr (.inr (some 142)), .inl 0, .inr (.inr (some t9_)), .inr (.inr (some 27))]) (hₚ := gc_h sh I4 J A) (C := (True ∧ True)) rfl ⟨trivial, trivial⟩ ?_
      have f10 := (gc_b_69 hI4 R_142 (Int.toNat a1))
      refine gv_iald hD rfl S_142 rfl ⟨by decide, B_142⟩ ⟨by exact gz_m 12 (by omega), by exact gz_m 13 (by omega)⟩ (gc_iI S_142 rfl) ?_
      show gv_X _ _ (39, [(0, .inr (.inr (some 0))), (1, .inl a1)], [.inl (I4 142 (Int.toNat a1)), .inl 0, .inr (.inr (some t9_)), .inr (.inr (some 27))], sh, gc_h sh I4 J A)
      obtain ⟨r11, h11, E11, P11⟩ := d_X9_putBytes (ws0 := ws0) (tb := tb) hws htb sh ro I4 J A hI4 27 200 t9_ 0 ((I4 142 (Int.toNat a1))) (gc_b27 hb) S_t9 R_t9 B_t9 (by decide)  ⟨by exact gz_m 14 (by omega), by exact gz_m 15 (by omega)⟩ ⟨by exact gz_m 16 (by omega), by exact gz_m 17 (by omega)⟩  
      obtain ⟨I12, J13, rfl, hI12, g11, k11, rfl⟩ := P11
      have FI12 := gc_frc (W := fun q j => (q = 27 ∧ j = 1) ∨ q = 28) (V := fun q j => (q = 27 ∧ j = 1) ∨ q = 28) FI4 (fun q j h => (h.elim (fun h => (Or.inl h)) (fun h => (Or.inr h)))) g11
      obtain rfl : J = J13 := funext fun q => funext fun j => ((k11 q j).resolve_left id).symm
      refine gv_callV hD rfl (As := [.inr (.inr (some t9_)), .inl 0, .inl (I4 142 (Int.toNat a1))]) (st := []) rfl B_27 S_27 rfl (gc_lV12 hws rfl) (Nat.le_of_ble_eq_true rfl) (gz_Ev_mono (d := 2) (by decide) E11) ?_
      show gv_X _ _ (42, [(0, .inr (.inr (some 0))), (1, .inl a1)], [], sh, gc_h sh I12 J A)
      refine gv_run 1 true hD (pcₚ := 43) (lvₚ := [(0, .inr (.inr (some 0))), (1, .inl a1)]) (stₚ := [.inr (.inr (some 0))]) (hₚ := gc_h sh I12 J A) (C := (True ∧ True)) rfl ⟨trivial, trivial⟩ ?_
      refine gv_get hD rfl rfl S_0 ⟨by decide, B_0⟩ (gc_hA S_0 rfl A_0_2) ?_
      show gv_X _ _ (46, [(0, .inr (.inr (some 0))), (1, .inl a1)], [.inr (.inr (some 27))], sh, gc_h sh I12 J A)
      have f14 := (gc_b_3_1 hI12 R_27)
      refine gv_get hD rfl rfl S_27 ⟨by decide, B_27⟩ (gc_hI S_27 rfl) ?_
      show gv_X _ _ (49, [(0, .inr (.inr (some 0))), (1, .inl a1)], [.inl (I12 27 1)], sh, gc_h sh I12 J A)
      exact gv_iret hD rfl ⟨I12, J, rfl, hI12, FI12, FJ, ⟨_, rfl, by exact gz_m 18 (by omega)⟩⟩
    · show gv_X _ _ (20, [(0, .inr (.inr (some 0))), (1, .inl a1)], [], sh, gc_h sh I4 J A)
      refine gv_pick [] rfl ?_
      exact L20 I4 J hI4 FI4 FJ
set_option maxHeartbeats 8000000 in
set_option maxRecDepth 100000 in
theorem d_X12_meaningOf {ws0 : List Cond} {tb : String → gz_T} (hws : gc_Ws ws0) (htb : gc_tbs tb) (sh : gz_Sh) (ro : Nat → Nat) (I : gr_I) (J : gr_J) (A : gc_A) (hI : gc_Inv ro I) (u : Nat) (a1 : Int) (hb : gc_Base sh ro A) (S_u : sh[u]? = some (true, 1, 60)) (R_u : ro u = 37) (B_u : u < 1000000) (ha1 : 0 ≤ a1 ∧ a1 ≤ 7) (x0 : A 114 (Int.toNat a1) = some u) (x1 : u = 115 + Int.toNat a1) (x2 : I 86 2 + I 86 4 = 1) (x3 : I 124 (Int.toNat a1) = 0 ∨ gc_wtr I u (I 124 (Int.toNat a1))) (x4 : gc_MS I) : ∃ r hₚ, gz_Ev ws0 tb 6 (yX12_meaningOf, cX12_meaningOf, 2, (some .int)) [.inr (.inr (some 0)), .inl a1] sh (gc_h sh I J A) r sh hₚ 0 0 ∧ (∃ (Iₚ : gr_I) (Jₚ : gr_J), hₚ = gc_h sh Iₚ Jₚ A ∧ gc_Inv ro Iₚ ∧ (∀ q j : Nat, (q = 87 ∨ q = 89 ∨ (q = 86 ∧ j = 1) ∨ (q = 86 ∧ j = 2) ∨ (q = 86 ∧ j = 3) ∨ (q = 86 ∧ j = 4) ∨ (q = 86 ∧ j = 5) ∨ q = 91 ∨ q = 22 ∨ q = 92 ∨ q = 93) ∨ Iₚ q j = I q j) ∧ (∀ q j : Nat, (q = 88 ∨ q = 90) ∨ Jₚ q j = J q j) ∧ (∃ z : Int, r = some (.inl z) ∧ (-4) ≤ z ∧ z ≤ 0 ∧ (Iₚ 86 2 + Iₚ 86 4 = 1) ∧ (z < 0 ∨ gc_TC (Iₚ (86 + 1 + 2 * Int.toNat (Iₚ 86 2))) (Iₚ 86 1)))) := by
  have FI : ∀ q j : Nat, (q = 87 ∨ q = 89 ∨ (q = 86 ∧ j = 1) ∨ (q = 86 ∧ j = 2) ∨ (q = 86 ∧ j = 3) ∨ (q = 86 ∧ j = 4) ∨ (q = 86 ∧ j = 5) ∨ q = 91 ∨ q = 22 ∨ q = 92 ∨ q = 93) ∨ I q j = I q j := fun _ _ => Or.inr rfl
  have FJ : ∀ q j : Nat, (q = 88 ∨ q = 90) ∨ J q j = J q j := fun _ _ => Or.inr rfl
  have A_0_11 : A 0 11 = some 114 := gc_bA_0_11 hb
  have A_0_12 : A 0 12 = some 124 := gc_bA_0_12 hb
  have A_0_9 : A 0 9 = some 86 := gc_bA_0_9 hb
  have B_0 : 0 < 1000000 := by decide
  have B_114 : 114 < 1000000 := by decide
  have B_124 : 124 < 1000000 := by decide
  have B_86 : 86 < 1000000 := by decide
  have R_124 : ro 124 = 68 := gc_bR_124 hb
  have R_86 : ro 86 = 74 := gc_bR_86 hb
  have S_0 : sh[0]? = some (false, 12, 17) := gc_bS_0 hb
  have S_114 : sh[114]? = some (true, 7, 9) := gc_bS_114 hb
  have S_124 : sh[124]? = some (true, 1, 9) := gc_bS_124 hb
  have S_86 : sh[86]? = some (false, 10, 19) := gc_bS_86 hb
  have hD : gv_D (gc_E12 ws0 tb 5 (yX12_meaningOf, cX12_meaningOf, 2, (some .int)) kX12_meaningOf) := gq_of oX12_meaningOf
  refine gc_ev12 (d := 5) (l := kX12_meaningOf) (Po := fun r hₚ => (∃ (Iₚ : gr_I) (Jₚ : gr_J), hₚ = gc_h sh Iₚ Jₚ A ∧ gc_Inv ro Iₚ ∧ (∀ q j : Nat, (q = 87 ∨ q = 89 ∨ (q = 86 ∧ j = 1) ∨ (q = 86 ∧ j = 2) ∨ (q = 86 ∧ j = 3) ∨ (q = 86 ∧ j = 4) ∨ (q = 86 ∧ j = 5) ∨ q = 91 ∨ q = 22 ∨ q = 92 ∨ q = 93) ∨ Iₚ q j = I q j) ∧ (∀ q j : Nat, (q = 88 ∨ q = 90) ∨ Jₚ q j = J q j) ∧ (∃ z : Int, r = some (.inl z) ∧ (-4) ≤ z ∧ z ≤ 0 ∧ (Iₚ 86 2 + Iₚ 86 4 = 1) ∧ (z < 0 ∨ gc_TC (Iₚ (86 + 1 + 2 * Int.toNat (Iₚ 86 2))) (Iₚ 86 1))))) htb rfl (Nat.le_of_ble_eq_true rfl) ?_
  have f1 := (gc_b_74_1 hI R_86)
  have f2 := (gc_b_74_2 hI R_86)
  have f3 := (gc_b_74_4 hI R_86)
  refine gv_run 1 true hD (pcₚ := 1) (lvₚ := [(0, .inr (.inr (some 0))), (1, .inl a1)]) (stₚ := [.inr (.inr (some 0))]) (hₚ := gc_h sh I J A) (C := (True ∧ True)) rfl ⟨trivial, trivial⟩ ?_
  refine gv_get hD rfl rfl S_0 ⟨by decide, B_0⟩ (gc_hA S_0 rfl A_0_12) ?_
  show gv_X _ _ (4, [(0, .inr (.inr (some 0))), (1, .inl a1)], [.inr (.inr (some 124))], sh, gc_h sh I J A)
  refine gv_run 1 true hD (pcₚ := 5) (lvₚ := [(0, .inr (.inr (some 0))), (1, .inl a1)]) (stₚ := [.inl a1, .inr (.inr (some 124))]) (hₚ := gc_h sh I J A) (C := (True ∧ True)) rfl ⟨trivial, trivial⟩ ?_
  have f4 := (gc_b_68 hI R_124 (Int.toNat a1))
  refine gv_iald hD rfl S_124 rfl ⟨by decide, B_124⟩ ⟨by exact gz_m 0 (by omega), by exact gz_m 1 (by omega)⟩ (gc_iI S_124 rfl) ?_
  show gv_X _ _ (6, [(0, .inr (.inr (some 0))), (1, .inl a1)], [.inl (I 124 (Int.toNat a1))], sh, gc_h sh I J A)
  refine gv_if_ne (t := 12) hD rfl rfl ⟨by exact gz_m 2 (by omega), by exact gz_m 3 (by omega)⟩ (fun c5 => ?_) (fun c5 => ?_)
  · show gv_X _ _ (12, [(0, .inr (.inr (some 0))), (1, .inl a1)], [], sh, gc_h sh I J A)
    refine gv_run 1 true hD (pcₚ := 13) (lvₚ := [(0, .inr (.inr (some 0))), (1, .inl a1)]) (stₚ := [.inr (.inr (some 0))]) (hₚ := gc_h sh I J A) (C := (True ∧ True)) rfl ⟨trivial, trivial⟩ ?_
    refine gv_get hD rfl rfl S_0 ⟨by decide, B_0⟩ (gc_hA S_0 rfl A_0_9) ?_
    show gv_X _ _ (16, [(0, .inr (.inr (some 0))), (1, .inl a1)], [.inr (.inr (some 86))], sh, gc_h sh I J A)
    refine gv_run 1 true hD (pcₚ := 17) (lvₚ := [(0, .inr (.inr (some 0))), (1, .inl a1)]) (stₚ := [.inr (.inr (some 0)), .inr (.inr (some 86))]) (hₚ := gc_h sh I J A) (C := (True ∧ True)) rfl ⟨trivial, trivial⟩ ?_
    refine gv_get hD rfl rfl S_0 ⟨by decide, B_0⟩ (gc_hA S_0 rfl A_0_11) ?_
    show gv_X _ _ (20, [(0, .inr (.inr (some 0))), (1, .inl a1)], [.inr (.inr (some 114)), .inr (.inr (some 86))], sh, gc_h sh I J A)
    refine gv_run 1 true hD (pcₚ := 21) (lvₚ := [(0, .inr (.inr (some 0))), (1, .inl a1)]) (stₚ := [.inl a1, .inr (.inr (some 114)), .inr (.inr (some 86))]) (hₚ := gc_h sh I J A) (C := (True ∧ True)) rfl ⟨trivial, trivial⟩ ?_
    refine gv_aald hD rfl S_114 ⟨by decide, by decide⟩ ⟨by decide, B_114⟩ ⟨by exact gz_m 4 (by omega), by exact gz_m 5 (by omega)⟩ ((gc_aA S_114 rfl).trans x0) ?_
    show gv_X _ _ (22, [(0, .inr (.inr (some 0))), (1, .inl a1)], [.inr (.inr (some u)), .inr (.inr (some 86))], sh, gc_h sh I J A)
    refine gv_run 1 true hD (pcₚ := 23) (lvₚ := [(0, .inr (.inr (some 0))), (1, .inl a1)]) (stₚ := [.inr (.inr (some 0)), .inr (.inr (some u)), .inr (.inr (some 86))]) (hₚ := gc_h sh I J A) (C := (True ∧ True)) rfl ⟨trivial, trivial⟩ ?_
    refine gv_get hD rfl rfl S_0 ⟨by decide, B_0⟩ (gc_hA S_0 rfl A_0_12) ?_
    show gv_X _ _ (26, [(0, .inr (.inr (some 0))), (1, .inl a1)], [.inr (.inr (some 124)), .inr (.inr (some u)), .inr (.inr (some 86))], sh, gc_h sh I J A)
    refine gv_run 1 true hD (pcₚ := 27) (lvₚ := [(0, .inr (.inr (some 0))), (1, .inl a1)]) (stₚ := [.inl a1, .inr (.inr (some 124)), .inr (.inr (some u)), .inr (.inr (some 86))]) (hₚ := gc_h sh I J A) (C := (True ∧ True)) rfl ⟨trivial, trivial⟩ ?_
    have f7 := (gc_b_68 hI R_124 (Int.toNat a1))
    refine gv_iald hD rfl S_124 rfl ⟨by decide, B_124⟩ ⟨by exact gz_m 6 (by omega), by exact gz_m 7 (by omega)⟩ (gc_iI S_124 rfl) ?_
    show gv_X _ _ (28, [(0, .inr (.inr (some 0))), (1, .inl a1)], [.inl (I 124 (Int.toNat a1)), .inr (.inr (some u)), .inr (.inr (some 86))], sh, gc_h sh I J A)
    obtain ⟨r8, h8, E8, P8⟩ := d_X10_ponder_m (ws0 := ws0) (tb := tb) hws htb sh ro I J A hI  60 u ((I 124 (Int.toNat a1))) hb S_u R_u B_u (by decide)  ⟨by exact gz_m 8 (by omega), by exact gz_m 9 (by omega)⟩ (by exact gz_m 10 (by omega)) (x3.resolve_left (by exact gz_m 11 (by omega))) (by exact gz_m 12 (by omega)) (by exact gz_m 13 (by omega)) (by exact gz_m 14 (by omega)) (fun i hi h9 => (x4 (Int.toNat (I u i)) (by have h8 := (show 0 ≤ I u i ∧ I u i ≤ 95 from gc_in2 hI R_u rfl rfl rfl); exact gz_m 15 (by omega)) h9).2) 
    obtain ⟨I9, J10, rfl, hI9, g8, k8, ⟨z8, rfl, q8⟩⟩ := P8
    have FI9 := gc_frc (W := fun q j => q = 87 ∨ q = 89 ∨ (q = 86 ∧ j = 1) ∨ (q = 86 ∧ j = 2) ∨ (q = 86 ∧ j = 3) ∨ (q = 86 ∧ j = 4) ∨ (q = 86 ∧ j = 5) ∨ q = 91 ∨ q = 22 ∨ q = 92 ∨ q = 93) (V := fun q j => q = 87 ∨ q = 89 ∨ (q = 86 ∧ j = 1) ∨ (q = 86 ∧ j = 2) ∨ (q = 86 ∧ j = 3) ∨ (q = 86 ∧ j = 4) ∨ (q = 86 ∧ j = 5) ∨ q = 91 ∨ q = 22 ∨ q = 92 ∨ q = 93) FI (fun q j h => (h.elim (fun h => (Or.inl h)) (fun h => (h.elim (fun h => (Or.inr (Or.inl h))) (fun h => (h.elim (fun h => (Or.inr (Or.inr (Or.inl h)))) (fun h => (h.elim (fun h => (Or.inr (Or.inr (Or.inr (Or.inl h))))) (fun h => (h.elim (fun h => (Or.inr (Or.inr (Or.inr (Or.inr (Or.inl h)))))) (fun h => (h.elim (fun h => (Or.inr (Or.inr (Or.inr (Or.inr (Or.inr (Or.inl h))))))) (fun h => (h.elim (fun h => (Or.inr (Or.inr (Or.inr (Or.inr (Or.inr (Or.inr (Or.inl h)))))))) (fun h => (h.elim (fun h => (Or.inr (Or.inr (Or.inr (Or.inr (Or.inr (Or.inr (Or.inr (Or.inl h))))))))) (fun h => (h.elim (fun h => (Or.inr (Or.inr (Or.inr (Or.inr (Or.inr (Or.inr (Or.inr (Or.inr (Or.inl h)))))))))) (fun h => (h.elim (fun h => (Or.inr (Or.inr (Or.inr (Or.inr (Or.inr (Or.inr (Or.inr (Or.inr (Or.inr (Or.inl h))))))))))) (fun h => (Or.inr (Or.inr (Or.inr (Or.inr (Or.inr (Or.inr (Or.inr (Or.inr (Or.inr (Or.inr h))))))))))))))))))))))))))))))) g8
    have FJ10 := gc_frc (W := fun q j => q = 88 ∨ q = 90) (V := fun q j => q = 88 ∨ q = 90) FJ (fun q j h => (h.elim (fun h => (Or.inl h)) (fun h => (Or.inr h)))) k8
    have f11 := (gc_b_74_1 hI9 R_86)
    have f12 := (gc_b_74_2 hI9 R_86)
    have f13 := (gc_b_74_4 hI9 R_86)
    refine gv_callV hD rfl (As := [.inr (.inr (some u)), .inl (I 124 (Int.toNat a1))]) (st := []) rfl B_86 S_86 rfl (gc_lV12 hws rfl) (Nat.le_of_ble_eq_true rfl) (gz_Ev_mono (d := 5) (by decide) E8) ?_
    show gv_X _ _ (31, [(0, .inr (.inr (some 0))), (1, .inl a1)], [.inl z8], sh, gc_h sh I9 J10 A)
    exact gv_iret hD rfl ⟨I9, J10, rfl, hI9, FI9, FJ10, ⟨_, rfl, by exact gz_m 16 (by omega), by exact gz_m 17 (by omega), by exact gz_m 18 (by omega), q8.2.2.2⟩⟩
  · show gv_X _ _ (9, [(0, .inr (.inr (some 0))), (1, .inl a1)], [], sh, gc_h sh I J A)
    refine gv_run 1 true hD (pcₚ := 11) (lvₚ := [(0, .inr (.inr (some 0))), (1, .inl a1)]) (stₚ := [.inl (-4)]) (hₚ := gc_h sh I J A) (C := (True ∧ True)) rfl ⟨trivial, trivial⟩ ?_
    exact gv_iret hD rfl ⟨I, J, rfl, hI, FI, FJ, ⟨_, rfl, by exact gz_m 19 (by omega), by exact gz_m 20 (by omega), by exact gz_m 21 (by omega), (Or.inl (by exact gz_m 22 (by omega)))⟩⟩
