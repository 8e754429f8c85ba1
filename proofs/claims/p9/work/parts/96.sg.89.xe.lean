theorem gh_op_cp {I Iₚ : gr_I} {T U : Nat} : ∀ {n : Nat}, (∀ k, k < n → Iₚ U k = I T k) → (∀ k, Iₚ 12 k = I 12 k) → gc_op Iₚ U n = gc_op I T n
  | 0, _, _ => rfl
  | n + 1, h, h2 => by
    show gc_op Iₚ U n - 1 + Iₚ 12 (Int.toNat (Iₚ U n)) = gc_op I T n - 1 + I 12 (Int.toNat (I T n))
    rw [gh_op_cp (n := n) (fun k hk => h k (by omega)) h2, h n (by omega), h2]
theorem gh_wtr_cp {I Iₚ : gr_I} {T U : Nat} {n : Int} (h : gc_wtr I T n) (h0 : 0 ≤ n) (e : ∀ k : Nat, (k : Int) < n → Iₚ U k = I T k) (h2 : ∀ k, Iₚ 12 k = I 12 k) : gc_wtr Iₚ U n := ⟨fun i hi => by rw [gh_op_cp (T := T) (fun k hk => e k (by omega)) h2]; exact h.1 i hi, by rw [gh_op_cp (T := T) (fun k hk => e k (by omega)) h2]; exact h.2⟩
theorem gh_rg_cp {I Iₚ : gr_I} {T U : Nat} {n lo hi : Int} (h : gc_rg T I n lo hi) (e : ∀ k : Nat, (k : Int) < n → Iₚ U k = I T k) : gc_rg U Iₚ n lo hi := fun k a b => by rw [e (Int.toNat k) (by omega)]; exact h k a b
theorem gh_cand {sh : gz_Sh} {ro : Nat → Nat} {A : gc_A} (hb : gc_Base sh ro A) (i : Nat) (hi : i < 16) : ∃ q, A 125 i = some q ∧ sh[q]? = some (true, 0, 200) ∧ ro q = 1 ∧ q < 1000000 ∧ q = 126 + i := by
  match i, hi with
  | 0, _ => exact ⟨126, gc_bA hb rfl, gc_bS hb rfl, gc_bR hb (by decide) rfl, by decide, rfl⟩
  | 1, _ => exact ⟨127, gc_bA hb rfl, gc_bS hb rfl, gc_bR hb (by decide) rfl, by decide, rfl⟩
  | 2, _ => exact ⟨128, gc_bA hb rfl, gc_bS hb rfl, gc_bR hb (by decide) rfl, by decide, rfl⟩
  | 3, _ => exact ⟨129, gc_bA hb rfl, gc_bS hb rfl, gc_bR hb (by decide) rfl, by decide, rfl⟩
  | 4, _ => exact ⟨130, gc_bA hb rfl, gc_bS hb rfl, gc_bR hb (by decide) rfl, by decide, rfl⟩
  | 5, _ => exact ⟨131, gc_bA hb rfl, gc_bS hb rfl, gc_bR hb (by decide) rfl, by decide, rfl⟩
  | 6, _ => exact ⟨132, gc_bA hb rfl, gc_bS hb rfl, gc_bR hb (by decide) rfl, by decide, rfl⟩
  | 7, _ => exact ⟨133, gc_bA hb rfl, gc_bS hb rfl, gc_bR hb (by decide) rfl, by decide, rfl⟩
  | 8, _ => exact ⟨134, gc_bA hb rfl, gc_bS hb rfl, gc_bR hb (by decide) rfl, by decide, rfl⟩
  | 9, _ => exact ⟨135, gc_bA hb rfl, gc_bS hb rfl, gc_bR hb (by decide) rfl, by decide, rfl⟩
  | 10, _ => exact ⟨136, gc_bA hb rfl, gc_bS hb rfl, gc_bR hb (by decide) rfl, by decide, rfl⟩
  | 11, _ => exact ⟨137, gc_bA hb rfl, gc_bS hb rfl, gc_bR hb (by decide) rfl, by decide, rfl⟩
  | 12, _ => exact ⟨138, gc_bA hb rfl, gc_bS hb rfl, gc_bR hb (by decide) rfl, by decide, rfl⟩
  | 13, _ => exact ⟨139, gc_bA hb rfl, gc_bS hb rfl, gc_bR hb (by decide) rfl, by decide, rfl⟩
  | 14, _ => exact ⟨140, gc_bA hb rfl, gc_bS hb rfl, gc_bR hb (by decide) rfl, by decide, rfl⟩
  | 15, _ => exact ⟨141, gc_bA hb rfl, gc_bS hb rfl, gc_bR hb (by decide) rfl, by decide, rfl⟩
  | _ + 16, h => exact absurd h (by omega)
set_option maxHeartbeats 8000000 in
set_option maxRecDepth 100000 in
theorem d_X12_tree {ws0 : List Cond} {tb : String → gz_T} (hws : gc_Ws ws0) (htb : gc_tbs tb) (sh : gz_Sh) (ro : Nat → Nat) (I : gr_I) (J : gr_J) (A : gc_A) (hI : gc_Inv ro I) (u : Nat) (a1 : Int) (hb : gc_Base sh ro A) (S_u : sh[u]? = some (true, 1, 60)) (R_u : ro u = 37) (B_u : u < 1000000) (ha1 : 0 ≤ a1 ∧ a1 ≤ 7) (x0 : A 114 (Int.toNat a1) = some u) (x1 : u = 115 + Int.toNat a1) : ∃ r hₚ, gz_Ev ws0 tb 5 (yX12_tree, cX12_tree, 3, (some .int)) [.inr (.inr (some 0)), .inl a1] sh (gc_h sh I J A) r sh hₚ 0 0 ∧ (∃ (Iₚ : gr_I) (Jₚ : gr_J), hₚ = gc_h sh Iₚ Jₚ A ∧ gc_Inv ro Iₚ ∧ (∀ q j : Nat, ((q = 39 ∧ j = 3) ∨ (q = 39 ∧ j = 4) ∨ (q = 23 ∧ j = 5) ∨ (q = 23 ∧ j = 6) ∨ (q = 23 ∧ j = 7) ∨ (q = 23 ∧ j = 8) ∨ q = 123 ∨ q = 46 ∨ q = 47 ∨ (q = 23 ∧ j = 1) ∨ q = u ∨ (q = 124 ∧ j = (Int.toNat a1))) ∨ Iₚ q j = I q j) ∧ (∀ q j : Nat, ((q = 23 ∧ j = 9)) ∨ Jₚ q j = J q j) ∧ (∃ z : Int, r = some (.inl z) ∧ (-1001) ≤ z ∧ z ≤ 60 ∧ (Iₚ 23 1 = 0) ∧ (z ≤ 0 ∨ (gc_wtr Iₚ u z ∧ gc_rg u Iₚ z 0 (I 4 1 - 1) ∧ Iₚ 124 (Int.toNat a1) = z)) ∧ (0 < z ∨ ((∀ k, Iₚ u k = I u k) ∧ Iₚ 124 (Int.toNat a1) = I 124 (Int.toNat a1))))) := by
  have FI : ∀ q j : Nat, ((q = 39 ∧ j = 3) ∨ (q = 39 ∧ j = 4) ∨ (q = 23 ∧ j = 5) ∨ (q = 23 ∧ j = 6) ∨ (q = 23 ∧ j = 7) ∨ (q = 23 ∧ j = 8) ∨ q = 123 ∨ q = 46 ∨ q = 47 ∨ (q = 23 ∧ j = 1) ∨ q = u ∨ (q = 124 ∧ j = (Int.toNat a1))) ∨ I q j = I q j := fun _ _ => Or.inr rfl
  have FJ : ∀ q j : Nat, ((q = 23 ∧ j = 9)) ∨ J q j = J q j := fun _ _ => Or.inr rfl
  have A_0_1 : A 0 1 = some 23 := gc_bA_0_1 hb
  have A_0_11 : A 0 11 = some 114 := gc_bA_0_11 hb
  have A_0_12 : A 0 12 = some 124 := gc_bA_0_12 hb
  have A_0_5 : A 0 5 = some 39 := gc_bA_0_5 hb
  have B_0 := gz_hi (show 0 < 1000000 from by decide)
  have B_114 := gz_hi (show 114 < 1000000 from by decide)
  have B_123 := gz_hi (show 123 < 1000000 from by decide)
  have B_124 := gz_hi (show 124 < 1000000 from by decide)
  have B_23 := gz_hi (show 23 < 1000000 from by decide)
  have B_39 := gz_hi (show 39 < 1000000 from by decide)
  have R_123 := gz_hi (show ro 123 = 37 from gc_bR_123 hb)
  have R_124 := gz_hi (show ro 124 = 68 from gc_bR_124 hb)
  have R_23 := gz_hi (show ro 23 = 3 from gc_bR_23 hb)
  have R_4 := gz_hi (show ro 4 = 11 from gc_bR_4 hb)
  have S_0 : sh[0]? = some (false, 12, 17) := gc_bS_0 hb
  have S_114 : sh[114]? = some (true, 7, 9) := gc_bS_114 hb
  have S_123 : sh[123]? = some (true, 1, 60) := gc_bS_123 hb
  have S_124 : sh[124]? = some (true, 1, 9) := gc_bS_124 hb
  have S_23 : sh[23]? = some (false, 9, 10) := gc_bS_23 hb
  have S_39 : sh[39]? = some (false, 6, 19) := gc_bS_39 hb
  have hD : gv_D (gc_E12 ws0 tb 4 (yX12_tree, cX12_tree, 3, (some .int)) kX12_tree) := gq_of oX12_tree
  refine gc_ev12 (d := 4) (l := kX12_tree) (Po := fun r hₚ => (∃ (Iₚ : gr_I) (Jₚ : gr_J), hₚ = gc_h sh Iₚ Jₚ A ∧ gc_Inv ro Iₚ ∧ (∀ q j : Nat, ((q = 39 ∧ j = 3) ∨ (q = 39 ∧ j = 4) ∨ (q = 23 ∧ j = 5) ∨ (q = 23 ∧ j = 6) ∨ (q = 23 ∧ j = 7) ∨ (q = 23 ∧ j = 8) ∨ q = 123 ∨ q = 46 ∨ q = 47 ∨ (q = 23 ∧ j = 1) ∨ q = u ∨ (q = 124 ∧ j = (Int.toNat a1))) ∨ Iₚ q j = I q j) ∧ (∀ q j : Nat, ((q = 23 ∧ j = 9)) ∨ Jₚ q j = J q j) ∧ (∃ z : Int, r = some (.inl z) ∧ (-1001) ≤ z ∧ z ≤ 60 ∧ (Iₚ 23 1 = 0) ∧ (z ≤ 0 ∨ (gc_wtr Iₚ u z ∧ gc_rg u Iₚ z 0 (I 4 1 - 1) ∧ Iₚ 124 (Int.toNat a1) = z)) ∧ (0 < z ∨ ((∀ k, Iₚ u k = I u k) ∧ Iₚ 124 (Int.toNat a1) = I 124 (Int.toNat a1)))))) htb rfl (Nat.le_of_ble_eq_true rfl) ?_
  have N_23__u := gz_hi (show ¬ (23 = u) from by (/-0-/first | omega | (simp only [gz_hd] at *; omega)))
  have N_4__u := gz_hi (show ¬ (4 = u) from by (/-1-/first | (have o1 := gz_sh N_23__u; omega) | (simp only [gz_hd] at *; omega)))
  refine gv_run 1 true hD (pcₚ := 1) (lvₚ := [(0, .inr (.inr (some 0))), (1, .inl a1)]) (stₚ := [.inl a1]) (hₚ := gc_h sh I J A) (C := (True ∧ True)) rfl ⟨trivial, trivial⟩ ?_
  obtain ⟨r3, h3, E3, P3⟩ := d_X12_checkPlace (ws0 := ws0) (tb := tb) hws htb sh ro I J A hI  a1 hb   ⟨by (/-2-/first | omega | (simp only [gz_hd] at *; omega)), by (/-3-/first | omega | (simp only [gz_hd] at *; omega))⟩  
  obtain ⟨rfl, rfl⟩ := P3
  refine gv_callS hD rfl (As := [.inl a1]) (st := []) rfl (gc_lS12 hws rfl) (Nat.le_of_ble_eq_true rfl) (gz_Ev_mono (d := 1) (by decide) E3) ?_
  show gv_X _ _ (4, [(0, .inr (.inr (some 0))), (1, .inl a1)], [], sh, gc_h sh I J A)
  refine gv_run 1 true hD (pcₚ := 5) (lvₚ := [(0, .inr (.inr (some 0))), (1, .inl a1)]) (stₚ := [.inr (.inr (some 0))]) (hₚ := gc_h sh I J A) (C := (True ∧ True)) rfl ⟨trivial, trivial⟩ ?_
  refine gv_get hD rfl rfl S_0 ⟨by decide, (gz_sh B_0)⟩ (gc_hA S_0 rfl A_0_5) ?_
  show gv_X _ _ (8, [(0, .inr (.inr (some 0))), (1, .inl a1)], [.inr (.inr (some 39))], sh, gc_h sh I J A)
  refine gv_run 1 true hD (pcₚ := 9) (lvₚ := [(0, .inr (.inr (some 0))), (1, .inl a1)]) (stₚ := [.inr (.inr (some 0)), .inr (.inr (some 39))]) (hₚ := gc_h sh I J A) (C := (True ∧ True)) rfl ⟨trivial, trivial⟩ ?_
  refine gv_get hD rfl rfl S_0 ⟨by decide, (gz_sh B_0)⟩ (gc_hA S_0 rfl A_0_11) ?_
  show gv_X _ _ (12, [(0, .inr (.inr (some 0))), (1, .inl a1)], [.inr (.inr (some 114)), .inr (.inr (some 39))], sh, gc_h sh I J A)
  refine gv_run 1 true hD (pcₚ := 14) (lvₚ := [(0, .inr (.inr (some 0))), (1, .inl a1)]) (stₚ := [.inl 8, .inr (.inr (some 114)), .inr (.inr (some 39))]) (hₚ := gc_h sh I J A) (C := (True ∧ True)) rfl ⟨trivial, trivial⟩ ?_
  refine gv_aald hD rfl S_114 ⟨by decide, by decide⟩ ⟨by decide, (gz_sh B_114)⟩ ⟨by (/-4-/first | omega | (simp only [gz_hd] at *; omega)), by (/-5-/first | omega | (simp only [gz_hd] at *; omega))⟩ ((gc_aA S_114 rfl).trans (show A 114 8 = some 123 from gc_bA hb rfl)) ?_
  show gv_X _ _ (15, [(0, .inr (.inr (some 0))), (1, .inl a1)], [.inr (.inr (some 123)), .inr (.inr (some 39))], sh, gc_h sh I J A)
  obtain ⟨r5, h5, E5, P5⟩ := d_X6_readTree_f (ws0 := ws0) (tb := tb) hws htb sh ro I J A hI  60 123 hb S_123 (gz_sh R_123) (gz_sh B_123) (by decide)   (by (/-6-/first | omega | (simp only [gz_hd] at *; omega))) (by (/-7-/first | omega | (simp only [gz_hd] at *; omega))) 
  obtain ⟨I6, J7, rfl, hI6, g5, k5, ⟨z5, rfl, q5⟩⟩ := P5
  replace q5 := gz_hi q5
  have FI6 := gc_frc (W := fun q j => (q = 39 ∧ j = 3) ∨ (q = 39 ∧ j = 4) ∨ (q = 23 ∧ j = 5) ∨ (q = 23 ∧ j = 6) ∨ (q = 23 ∧ j = 7) ∨ (q = 23 ∧ j = 8) ∨ q = 123 ∨ q = 46 ∨ q = 47 ∨ (q = 23 ∧ j = 1) ∨ q = u ∨ (q = 124 ∧ j = (Int.toNat a1))) (V := fun q j => (q = 39 ∧ j = 3) ∨ (q = 39 ∧ j = 4) ∨ (q = 23 ∧ j = 5) ∨ (q = 23 ∧ j = 6) ∨ (q = 23 ∧ j = 7) ∨ (q = 23 ∧ j = 8) ∨ q = 123 ∨ q = 46 ∨ q = 47) FI (fun q j h => (h.elim (fun h => (Or.inl h)) (fun h => (h.elim (fun h => (Or.inr (Or.inl h))) (fun h => (h.elim (fun h => (Or.inr (Or.inr (Or.inl h)))) (fun h => (h.elim (fun h => (Or.inr (Or.inr (Or.inr (Or.inl h))))) (fun h => (h.elim (fun h => (Or.inr (Or.inr (Or.inr (Or.inr (Or.inl h)))))) (fun h => (h.elim (fun h => (Or.inr (Or.inr (Or.inr (Or.inr (Or.inr (Or.inl h))))))) (fun h => (h.elim (fun h => (Or.inr (Or.inr (Or.inr (Or.inr (Or.inr (Or.inr (Or.inl h)))))))) (fun h => (h.elim (fun h => (Or.inr (Or.inr (Or.inr (Or.inr (Or.inr (Or.inr (Or.inr (Or.inl h))))))))) (fun h => (Or.inr (Or.inr (Or.inr (Or.inr (Or.inr (Or.inr (Or.inr (Or.inr (Or.inl h)))))))))))))))))))))))))) g5
  have FJ7 := gc_frc (W := fun q j => (q = 23 ∧ j = 9)) (V := fun q j => (q = 23 ∧ j = 9)) FJ (fun q j h => h) k5
  refine gv_callV hD rfl (As := [.inr (.inr (some 123))]) (st := []) rfl (gz_sh B_39) S_39 rfl (gc_lV12 hws rfl) (Nat.le_of_ble_eq_true rfl) (gz_Ev_mono (d := 4) (by decide) E5) ?_
  show gv_X _ _ (18, [(0, .inr (.inr (some 0))), (1, .inl a1)], [.inl z5], sh, gc_h sh I6 J7 A)
  refine gv_run 2 true hD (pcₚ := 20) (lvₚ := [(2, .inl z5), (0, .inr (.inr (some 0))), (1, .inl a1)]) (stₚ := [.inr (.inr (some 0))]) (hₚ := gc_h sh I6 J7 A) (C := ((True ∧ True) ∧ True)) rfl ⟨⟨trivial, trivial⟩, trivial⟩ ?_
  refine gv_get hD rfl rfl S_0 ⟨by decide, (gz_sh B_0)⟩ (gc_hA S_0 rfl A_0_1) ?_
  show gv_X _ _ (23, [(2, .inl z5), (0, .inr (.inr (some 0))), (1, .inl a1)], [.inr (.inr (some 23))], sh, gc_h sh I6 J7 A)
  refine gv_run 1 true hD (pcₚ := 24) (lvₚ := [(2, .inl z5), (0, .inr (.inr (some 0))), (1, .inl a1)]) (stₚ := [.inl 0, .inr (.inr (some 23))]) (hₚ := gc_h sh I6 J7 A) (C := (True ∧ True)) rfl ⟨trivial, trivial⟩ ?_
  refine gv_put hD rfl rfl S_23 ⟨by decide, (gz_sh B_23)⟩ rfl trivial ?_
  refine gc_st (k := 1) hI6 S_23 rfl (gz_sh R_23) (lo := 0) (hi := 1000) rfl rfl (by (/-8-/first | omega | (simp only [gz_hd] at *; omega))) (by (/-9-/first | omega | (simp only [gz_hd] at *; omega))) (fun I10 hI10 q11 p11 => ?_)
  have FI10 := gc_frs (W := fun q j => (q = 39 ∧ j = 3) ∨ (q = 39 ∧ j = 4) ∨ (q = 23 ∧ j = 5) ∨ (q = 23 ∧ j = 6) ∨ (q = 23 ∧ j = 7) ∨ (q = 23 ∧ j = 8) ∨ q = 123 ∨ q = 46 ∨ q = 47 ∨ (q = 23 ∧ j = 1) ∨ q = u ∨ (q = 124 ∧ j = (Int.toNat a1))) FI6 (Or.inr (Or.inr (Or.inr (Or.inr (Or.inr (Or.inr (Or.inr (Or.inr (Or.inr (Or.inl ⟨rfl, rfl⟩)))))))))) p11
  show gv_X _ _ (27, [(2, .inl z5), (0, .inr (.inr (some 0))), (1, .inl a1)], [], sh, gc_h sh I10 J7 A)
  refine gv_run 1 true hD (pcₚ := 28) (lvₚ := [(2, .inl z5), (0, .inr (.inr (some 0))), (1, .inl a1)]) (stₚ := [.inl z5]) (hₚ := gc_h sh I10 J7 A) (C := (True ∧ True)) rfl ⟨trivial, trivial⟩ ?_
  refine gv_if_le (t := 57) hD rfl rfl ⟨by (/-10-/first | (have o1 := gz_sh q5; omega) | (simp only [gz_hd] at *; omega)), by (/-11-/first | (have o1 := gz_sh q5; omega) | (simp only [gz_hd] at *; omega))⟩ (fun c14 => ?_) (fun c14 => ?_)
  · show gv_X _ _ (57, [(2, .inl z5), (0, .inr (.inr (some 0))), (1, .inl a1)], [], sh, gc_h sh I10 J7 A)
    refine gv_run 1 true hD (pcₚ := 58) (lvₚ := [(2, .inl z5), (0, .inr (.inr (some 0))), (1, .inl a1)]) (stₚ := [.inl z5]) (hₚ := gc_h sh I10 J7 A) (C := (True ∧ True)) rfl ⟨trivial, trivial⟩ ?_
    exact gv_iret hD rfl ⟨I10, J7, rfl, hI10, FI10, FJ7, ⟨_, rfl, by (/-12-/first | (have o1 := gz_sh q5; omega) | (simp only [gz_hd] at *; omega)), by (/-13-/first | omega | (simp only [gz_hd] at *; omega)), by (/-14-/first | omega | (simp only [gz_hd] at *; omega)), (Or.inl (by (/-15-/first | omega | (simp only [gz_hd] at *; omega)))), (Or.inr ⟨fun k => ((p11 u k (fun h => absurd h.1 (by (/-16-/first | (have o1 := gz_sh N_23__u; have o2 := gz_sh N_4__u; have o3 := gz_sh q5; omega) | (simp only [gz_hd] at *; omega))))).trans ((g5 u k).resolve_left (by (/-17-/first | (have o1 := gz_sh N_23__u; have o2 := gz_sh N_4__u; have o3 := gz_sh q5; omega) | (simp only [gz_hd] at *; omega))))), ((p11 124 (Int.toNat a1) (fun h => absurd h.1 (by (/-18-/first | omega | (simp only [gz_hd] at *; omega))))).trans ((g5 124 (Int.toNat a1)).resolve_left (by (/-19-/first | omega | (simp only [gz_hd] at *; omega)))))⟩)⟩⟩
  · show gv_X _ _ (31, [(2, .inl z5), (0, .inr (.inr (some 0))), (1, .inl a1)], [], sh, gc_h sh I10 J7 A)
    refine gv_run 1 true hD (pcₚ := 32) (lvₚ := [(2, .inl z5), (0, .inr (.inr (some 0))), (1, .inl a1)]) (stₚ := [.inr (.inr (some 0))]) (hₚ := gc_h sh I10 J7 A) (C := (True ∧ True)) rfl ⟨trivial, trivial⟩ ?_
    refine gv_get hD rfl rfl S_0 ⟨by decide, (gz_sh B_0)⟩ (gc_hA S_0 rfl A_0_11) ?_
    show gv_X _ _ (35, [(2, .inl z5), (0, .inr (.inr (some 0))), (1, .inl a1)], [.inr (.inr (some 114))], sh, gc_h sh I10 J7 A)
    refine gv_run 1 true hD (pcₚ := 37) (lvₚ := [(2, .inl z5), (0, .inr (.inr (some 0))), (1, .inl a1)]) (stₚ := [.inl 8, .inr (.inr (some 114))]) (hₚ := gc_h sh I10 J7 A) (C := (True ∧ True)) rfl ⟨trivial, trivial⟩ ?_
    refine gv_aald hD rfl S_114 ⟨by decide, by decide⟩ ⟨by decide, (gz_sh B_114)⟩ ⟨by (/-20-/first | omega | (simp only [gz_hd] at *; omega)), by (/-21-/first | omega | (simp only [gz_hd] at *; omega))⟩ ((gc_aA S_114 rfl).trans (show A 114 8 = some 123 from gc_bA hb rfl)) ?_
    show gv_X _ _ (38, [(2, .inl z5), (0, .inr (.inr (some 0))), (1, .inl a1)], [.inr (.inr (some 123))], sh, gc_h sh I10 J7 A)
    refine gv_run 2 true hD (pcₚ := 40) (lvₚ := [(2, .inl z5), (0, .inr (.inr (some 0))), (1, .inl a1)]) (stₚ := [.inr (.inr (some 0)), .inl 0, .inr (.inr (some 123))]) (hₚ := gc_h sh I10 J7 A) (C := ((True ∧ True) ∧ True)) rfl ⟨⟨trivial, trivial⟩, trivial⟩ ?_
    refine gv_get hD rfl rfl S_0 ⟨by decide, (gz_sh B_0)⟩ (gc_hA S_0 rfl A_0_11) ?_
    show gv_X _ _ (43, [(2, .inl z5), (0, .inr (.inr (some 0))), (1, .inl a1)], [.inr (.inr (some 114)), .inl 0, .inr (.inr (some 123))], sh, gc_h sh I10 J7 A)
    refine gv_run 1 true hD (pcₚ := 44) (lvₚ := [(2, .inl z5), (0, .inr (.inr (some 0))), (1, .inl a1)]) (stₚ := [.inl a1, .inr (.inr (some 114)), .inl 0, .inr (.inr (some 123))]) (hₚ := gc_h sh I10 J7 A) (C := (True ∧ True)) rfl ⟨trivial, trivial⟩ ?_
    refine gv_aald hD rfl S_114 ⟨by decide, by decide⟩ ⟨by decide, (gz_sh B_114)⟩ ⟨by (/-22-/first | omega | (simp only [gz_hd] at *; omega)), by (/-23-/first | omega | (simp only [gz_hd] at *; omega))⟩ ((gc_aA S_114 rfl).trans x0) ?_
    show gv_X _ _ (45, [(2, .inl z5), (0, .inr (.inr (some 0))), (1, .inl a1)], [.inr (.inr (some u)), .inl 0, .inr (.inr (some 123))], sh, gc_h sh I10 J7 A)
    refine gv_run 2 true hD (pcₚ := 47) (lvₚ := [(2, .inl z5), (0, .inr (.inr (some 0))), (1, .inl a1)]) (stₚ := [.inl z5, .inl 0, .inr (.inr (some u)), .inl 0, .inr (.inr (some 123))]) (hₚ := gc_h sh I10 J7 A) (C := ((True ∧ True) ∧ True)) rfl ⟨⟨trivial, trivial⟩, trivial⟩ ?_
    refine gv_copy hD rfl (gc_lC12_256 hws) (Nat.le_of_ble_eq_true rfl) ⟨(gz_sh B_123), B_u⟩ S_123 S_u (by decide) ⟨by decide, by decide⟩ ⟨by (/-24-/first | omega | (simp only [gz_hd] at *; omega)), by (/-25-/first | omega | (simp only [gz_hd] at *; omega)), by (/-26-/first | omega | (simp only [gz_hd] at *; omega))⟩ (by (/-27-/first | (have o1 := gz_sh q5; omega) | (simp only [gz_hd] at *; omega))) (by (/-28-/first | (have o1 := gz_sh q5; omega) | (simp only [gz_hd] at *; omega))) (fun h => absurd h (by first | exact gz_ne rfl | decide)) ?_
    refine gc_cp hI10 S_123 S_u (by decide) (fun j hj => by have h9 := (gc_b_37 hI10 (gz_sh R_123) (Int.toNat 0 + j)); rw [R_u]; exact ⟨by show 0 ≤ _; (/-29-/first | omega | (simp only [gz_hd] at *; omega)), by show _ ≤ 95; (/-30-/first | omega | (simp only [gz_hd] at *; omega))⟩) (fun I18 hI18 p17 q17 => ?_)
    have FI18 := gc_frp (W := fun q j => (q = 39 ∧ j = 3) ∨ (q = 39 ∧ j = 4) ∨ (q = 23 ∧ j = 5) ∨ (q = 23 ∧ j = 6) ∨ (q = 23 ∧ j = 7) ∨ (q = 23 ∧ j = 8) ∨ q = 123 ∨ q = 46 ∨ q = 47 ∨ (q = 23 ∧ j = 1) ∨ q = u ∨ (q = 124 ∧ j = (Int.toNat a1))) (V := fun q j => q = u ∧ Int.toNat 0 ≤ j ∧ j < Int.toNat 0 + Int.toNat z5) FI10 (fun q j h => (Or.inr (Or.inr (Or.inr (Or.inr (Or.inr (Or.inr (Or.inr (Or.inr (Or.inr (Or.inr (Or.inl h.1)))))))))))) p17
    have t20 := gz_hi (p17 23 1 (fun h => absurd h.1 (gz_sh N_23__u)))
    show gv_X _ _ (50, [(2, .inl z5), (0, .inr (.inr (some 0))), (1, .inl a1)], [], sh, gc_h sh I18 J7 A)
    refine gv_run 1 true hD (pcₚ := 51) (lvₚ := [(2, .inl z5), (0, .inr (.inr (some 0))), (1, .inl a1)]) (stₚ := [.inr (.inr (some 0))]) (hₚ := gc_h sh I18 J7 A) (C := (True ∧ True)) rfl ⟨trivial, trivial⟩ ?_
    refine gv_get hD rfl rfl S_0 ⟨by decide, (gz_sh B_0)⟩ (gc_hA S_0 rfl A_0_12) ?_
    show gv_X _ _ (54, [(2, .inl z5), (0, .inr (.inr (some 0))), (1, .inl a1)], [.inr (.inr (some 124))], sh, gc_h sh I18 J7 A)
    refine gv_run 2 true hD (pcₚ := 56) (lvₚ := [(2, .inl z5), (0, .inr (.inr (some 0))), (1, .inl a1)]) (stₚ := [.inl z5, .inl a1, .inr (.inr (some 124))]) (hₚ := gc_h sh I18 J7 A) (C := ((True ∧ True) ∧ True)) rfl ⟨⟨trivial, trivial⟩, trivial⟩ ?_
    refine gv_iast hD rfl S_124 ⟨by decide, (gz_sh B_124)⟩ ⟨by (/-31-/first | omega | (simp only [gz_hd] at *; omega)), by (/-32-/first | omega | (simp only [gz_hd] at *; omega))⟩ ?_
    refine gc_st hI18 S_124 rfl (gz_sh R_124) (lo := 0) (hi := 60) rfl rfl (by (/-33-/first | omega | (simp only [gz_hd] at *; omega))) (by (/-34-/first | (have o1 := gz_sh q5; omega) | (simp only [gz_hd] at *; omega))) (fun I24 hI24 q25 p25 => ?_)
    have FI24 := gc_frs (W := fun q j => (q = 39 ∧ j = 3) ∨ (q = 39 ∧ j = 4) ∨ (q = 23 ∧ j = 5) ∨ (q = 23 ∧ j = 6) ∨ (q = 23 ∧ j = 7) ∨ (q = 23 ∧ j = 8) ∨ q = 123 ∨ q = 46 ∨ q = 47 ∨ (q = 23 ∧ j = 1) ∨ q = u ∨ (q = 124 ∧ j = (Int.toNat a1))) FI18 (Or.inr (Or.inr (Or.inr (Or.inr (Or.inr (Or.inr (Or.inr (Or.inr (Or.inr (Or.inr (Or.inr ⟨rfl, rfl⟩))))))))))) p25
    have t26 := gz_hi (p25 23 1 (fun h => absurd h.1 (by first | exact gz_ne rfl | decide)))
    show gv_X _ _ (57, [(2, .inl z5), (0, .inr (.inr (some 0))), (1, .inl a1)], [], sh, gc_h sh I24 J7 A)
    refine gv_run 1 true hD (pcₚ := 58) (lvₚ := [(2, .inl z5), (0, .inr (.inr (some 0))), (1, .inl a1)]) (stₚ := [.inl z5]) (hₚ := gc_h sh I24 J7 A) (C := (True ∧ True)) rfl ⟨trivial, trivial⟩ ?_
    exact gv_iret hD rfl ⟨I24, J7, rfl, hI24, FI24, FJ7, ⟨_, rfl, by (/-35-/first | omega | (simp only [gz_hd] at *; omega)), by (/-36-/first | (have o1 := gz_sh q5; omega) | (simp only [gz_hd] at *; omega)), by (/-37-/first | (have o1 := gz_sh t20; have o2 := gz_sh t26; omega) | (simp only [gz_hd] at *; omega)), (Or.inr ⟨gh_wtr_cp ((gz_sh q5).2.2.2.1.resolve_left (by (/-38-/first | omega | (simp only [gz_hd] at *; omega)))) (by (/-39-/first | omega | (simp only [gz_hd] at *; omega))) (fun k hk => ((p25 u k (fun h => absurd h.1 (by (/-40-/first | (have o1 := gz_sh N_23__u; have o2 := gz_sh N_4__u; have o3 := gz_sh q5; omega) | (simp only [gz_hd] at *; omega)))))).trans (by have h9 := q17 k (by (/-41-/first | omega | (simp only [gz_hd] at *; omega))); rw [show Int.toNat 0 + k = k from by (/-42-/first | omega | (simp only [gz_hd] at *; omega))] at h9; exact h9.trans ((p11 123 k (fun h => absurd h.1 (by (/-43-/first | omega | (simp only [gz_hd] at *; omega)))))))) (fun k => (((p25 12 k (fun h => absurd h.1 (by (/-44-/first | omega | (simp only [gz_hd] at *; omega))))).trans (p17 12 k (fun h => absurd h.1 (by (/-45-/first | (have o1 := gz_sh N_23__u; have o2 := gz_sh N_4__u; have o3 := gz_sh q5; omega) | (simp only [gz_hd] at *; omega)))))).trans (p11 12 k (fun h => absurd h.1 (by (/-46-/first | omega | (simp only [gz_hd] at *; omega))))))), gh_rg_cp ((gz_sh q5).2.2.2.2.2.resolve_left (by (/-47-/first | omega | (simp only [gz_hd] at *; omega)))) (fun k hk => ((p25 u k (fun h => absurd h.1 (by (/-48-/first | (have o1 := gz_sh N_23__u; have o2 := gz_sh N_4__u; have o3 := gz_sh q5; omega) | (simp only [gz_hd] at *; omega)))))).trans (by have h9 := q17 k (by (/-49-/first | omega | (simp only [gz_hd] at *; omega))); rw [show Int.toNat 0 + k = k from by (/-50-/first | omega | (simp only [gz_hd] at *; omega))] at h9; exact h9.trans ((p11 123 k (fun h => absurd h.1 (by (/-51-/first | omega | (simp only [gz_hd] at *; omega)))))))), by (/-52-/first | omega | (simp only [gz_hd] at *; omega))⟩), (Or.inl (by (/-53-/first | omega | (simp only [gz_hd] at *; omega))))⟩⟩
set_option maxHeartbeats 8000000 in
set_option maxRecDepth 100000 in
theorem d_X12_show {ws0 : List Cond} {tb : String → gz_T} (hws : gc_Ws ws0) (htb : gc_tbs tb) (sh : gz_Sh) (ro : Nat → Nat) (I : gr_I) (J : gr_J) (A : gc_A) (hI : gc_Inv ro I) (u : Nat) (a1 : Int) (hb : gc_Base sh ro A) (S_u : sh[u]? = some (true, 1, 60)) (R_u : ro u = 37) (B_u : u < 1000000) (ha1 : 0 ≤ a1 ∧ a1 ≤ 7) (x0 : A 114 (Int.toNat a1) = some u) (x1 : u = 115 + Int.toNat a1) : ∃ r hₚ, gz_Ev ws0 tb 4 (yX12_show, cX12_show, 2, (some .int)) [.inr (.inr (some 0)), .inl a1] sh (gc_h sh I J A) r sh hₚ 0 0 ∧ (∃ (Iₚ : gr_I) (Jₚ : gr_J), hₚ = gc_h sh Iₚ Jₚ A ∧ gc_Inv ro Iₚ ∧ (∀ q j : Nat, ((q = 27 ∧ j = 1) ∨ q = 28 ∨ q = 22) ∨ Iₚ q j = I q j) ∧ (∀ q j : Nat, (False) ∨ Jₚ q j = J q j) ∧ (∃ z : Int, r = some (.inl z) ∧ (-1) ≤ z ∧ z ≤ 1000)) := by
  have FI : ∀ q j : Nat, ((q = 27 ∧ j = 1) ∨ q = 28 ∨ q = 22) ∨ I q j = I q j := fun _ _ => Or.inr rfl
  have FJ : ∀ q j : Nat, (False) ∨ J q j = J q j := fun _ _ => Or.inr rfl
  have A_0_0 : A 0 0 = some 1 := gc_bA_0_0 hb
  have A_0_11 : A 0 11 = some 114 := gc_bA_0_11 hb
  have A_0_12 : A 0 12 = some 124 := gc_bA_0_12 hb
  have A_0_2 : A 0 2 = some 27 := gc_bA_0_2 hb
  have B_0 := gz_hi (show 0 < 1000000 from by decide)
  have B_1 := gz_hi (show 1 < 1000000 from by decide)
  have B_114 := gz_hi (show 114 < 1000000 from by decide)
  have B_124 := gz_hi (show 124 < 1000000 from by decide)
  have B_27 := gz_hi (show 27 < 1000000 from by decide)
  have R_124 := gz_hi (show ro 124 = 68 from gc_bR_124 hb)
  have R_27 := gz_hi (show ro 27 = 3 from gc_bR_27 hb)
  have S_0 : sh[0]? = some (false, 12, 17) := gc_bS_0 hb
  have S_1 : sh[1]? = some (false, 8, 21) := gc_bS_1 hb
  have S_114 : sh[114]? = some (true, 7, 9) := gc_bS_114 hb
  have S_124 : sh[124]? = some (true, 1, 9) := gc_bS_124 hb
  have S_27 : sh[27]? = some (false, 9, 10) := gc_bS_27 hb
  have hD : gv_D (gc_E12 ws0 tb 3 (yX12_show, cX12_show, 2, (some .int)) kX12_show) := gq_of oX12_show
  refine gc_ev12 (d := 3) (l := kX12_show) (Po := fun r hₚ => (∃ (Iₚ : gr_I) (Jₚ : gr_J), hₚ = gc_h sh Iₚ Jₚ A ∧ gc_Inv ro Iₚ ∧ (∀ q j : Nat, ((q = 27 ∧ j = 1) ∨ q = 28 ∨ q = 22) ∨ Iₚ q j = I q j) ∧ (∀ q j : Nat, (False) ∨ Jₚ q j = J q j) ∧ (∃ z : Int, r = some (.inl z) ∧ (-1) ≤ z ∧ z ≤ 1000))) htb rfl (Nat.le_of_ble_eq_true rfl) ?_
  refine gv_run 1 true hD (pcₚ := 1) (lvₚ := [(0, .inr (.inr (some 0))), (1, .inl a1)]) (stₚ := [.inl a1]) (hₚ := gc_h sh I J A) (C := (True ∧ True)) rfl ⟨trivial, trivial⟩ ?_
  obtain ⟨r1, h1, E1, P1⟩ := d_X12_checkPlace (ws0 := ws0) (tb := tb) hws htb sh ro I J A hI  a1 hb   ⟨by (/-0-/first | omega | (simp only [gz_hd] at *; omega)), by (/-1-/first | omega | (simp only [gz_hd] at *; omega))⟩  
  obtain ⟨rfl, rfl⟩ := P1
  refine gv_callS hD rfl (As := [.inl a1]) (st := []) rfl (gc_lS12 hws rfl) (Nat.le_of_ble_eq_true rfl) (gz_Ev_mono (d := 1) (by decide) E1) ?_
  show gv_X _ _ (4, [(0, .inr (.inr (some 0))), (1, .inl a1)], [], sh, gc_h sh I J A)
  refine gv_run 1 true hD (pcₚ := 5) (lvₚ := [(0, .inr (.inr (some 0))), (1, .inl a1)]) (stₚ := [.inr (.inr (some 0))]) (hₚ := gc_h sh I J A) (C := (True ∧ True)) rfl ⟨trivial, trivial⟩ ?_
  refine gv_get hD rfl rfl S_0 ⟨by decide, (gz_sh B_0)⟩ (gc_hA S_0 rfl A_0_2) ?_
  show gv_X _ _ (8, [(0, .inr (.inr (some 0))), (1, .inl a1)], [.inr (.inr (some 27))], sh, gc_h sh I J A)
  refine gv_run 1 true hD (pcₚ := 9) (lvₚ := [(0, .inr (.inr (some 0))), (1, .inl a1)]) (stₚ := [.inl 0, .inr (.inr (some 27))]) (hₚ := gc_h sh I J A) (C := (True ∧ True)) rfl ⟨trivial, trivial⟩ ?_
  refine gv_put hD rfl rfl S_27 ⟨by decide, (gz_sh B_27)⟩ rfl trivial ?_
  refine gc_st (k := 1) hI S_27 rfl (gz_sh R_27) (lo := 0) (hi := 1000) rfl rfl (by (/-2-/first | omega | (simp only [gz_hd] at *; omega))) (by (/-3-/first | omega | (simp only [gz_hd] at *; omega))) (fun I2 hI2 q3 p3 => ?_)
  have FI2 := gc_frs (W := fun q j => (q = 27 ∧ j = 1) ∨ q = 28 ∨ q = 22) FI (Or.inl ⟨rfl, rfl⟩) p3
  show gv_X _ _ (12, [(0, .inr (.inr (some 0))), (1, .inl a1)], [], sh, gc_h sh I2 J A)
  refine gv_run 1 true hD (pcₚ := 13) (lvₚ := [(0, .inr (.inr (some 0))), (1, .inl a1)]) (stₚ := [.inr (.inr (some 0))]) (hₚ := gc_h sh I2 J A) (C := (True ∧ True)) rfl ⟨trivial, trivial⟩ ?_
  refine gv_get hD rfl rfl S_0 ⟨by decide, (gz_sh B_0)⟩ (gc_hA S_0 rfl A_0_12) ?_
  show gv_X _ _ (16, [(0, .inr (.inr (some 0))), (1, .inl a1)], [.inr (.inr (some 124))], sh, gc_h sh I2 J A)
  refine gv_run 1 true hD (pcₚ := 17) (lvₚ := [(0, .inr (.inr (some 0))), (1, .inl a1)]) (stₚ := [.inl a1, .inr (.inr (some 124))]) (hₚ := gc_h sh I2 J A) (C := (True ∧ True)) rfl ⟨trivial, trivial⟩ ?_
  have f4 := gz_hi ((gc_b_68 hI2 (gz_sh R_124) (Int.toNat a1)))
  refine gv_iald hD rfl S_124 rfl ⟨by decide, (gz_sh B_124)⟩ ⟨by (/-4-/first | omega | (simp only [gz_hd] at *; omega)), by (/-5-/first | omega | (simp only [gz_hd] at *; omega))⟩ (gc_iI S_124 rfl) ?_
  show gv_X _ _ (18, [(0, .inr (.inr (some 0))), (1, .inl a1)], [.inl (I2 124 (Int.toNat a1))], sh, gc_h sh I2 J A)
  refine gv_if_ne (t := 23) hD rfl rfl ⟨by (/-6-/first | (have o1 := gz_sh f4; omega) | (simp only [gz_hd] at *; omega)), by (/-7-/first | (have o1 := gz_sh f4; omega) | (simp only [gz_hd] at *; omega))⟩ (fun c5 => ?_) (fun c5 => ?_)
  · show gv_X _ _ (23, [(0, .inr (.inr (some 0))), (1, .inl a1)], [], sh, gc_h sh I2 J A)
    refine gv_run 1 true hD (pcₚ := 24) (lvₚ := [(0, .inr (.inr (some 0))), (1, .inl a1)]) (stₚ := [.inr (.inr (some 0))]) (hₚ := gc_h sh I2 J A) (C := (True ∧ True)) rfl ⟨trivial, trivial⟩ ?_
    refine gv_get hD rfl rfl S_0 ⟨by decide, (gz_sh B_0)⟩ (gc_hA S_0 rfl A_0_0) ?_
    show gv_X _ _ (27, [(0, .inr (.inr (some 0))), (1, .inl a1)], [.inr (.inr (some 1))], sh, gc_h sh I2 J A)
    refine gv_run 1 true hD (pcₚ := 28) (lvₚ := [(0, .inr (.inr (some 0))), (1, .inl a1)]) (stₚ := [.inr (.inr (some 0)), .inr (.inr (some 1))]) (hₚ := gc_h sh I2 J A) (C := (True ∧ True)) rfl ⟨trivial, trivial⟩ ?_
    refine gv_get hD rfl rfl S_0 ⟨by decide, (gz_sh B_0)⟩ (gc_hA S_0 rfl A_0_11) ?_
    show gv_X _ _ (31, [(0, .inr (.inr (some 0))), (1, .inl a1)], [.inr (.inr (some 114)), .inr (.inr (some 1))], sh, gc_h sh I2 J A)
    refine gv_run 1 true hD (pcₚ := 32) (lvₚ := [(0, .inr (.inr (some 0))), (1, .inl a1)]) (stₚ := [.inl a1, .inr (.inr (some 114)), .inr (.inr (some 1))]) (hₚ := gc_h sh I2 J A) (C := (True ∧ True)) rfl ⟨trivial, trivial⟩ ?_
    refine gv_aald hD rfl S_114 ⟨by decide, by decide⟩ ⟨by decide, (gz_sh B_114)⟩ ⟨by (/-8-/first | omega | (simp only [gz_hd] at *; omega)), by (/-9-/first | omega | (simp only [gz_hd] at *; omega))⟩ ((gc_aA S_114 rfl).trans x0) ?_
    show gv_X _ _ (33, [(0, .inr (.inr (some 0))), (1, .inl a1)], [.inr (.inr (some u)), .inr (.inr (some 1))], sh, gc_h sh I2 J A)
    refine gv_run 1 true hD (pcₚ := 34) (lvₚ := [(0, .inr (.inr (some 0))), (1, .inl a1)]) (stₚ := [.inr (.inr (some 0)), .inr (.inr (some u)), .inr (.inr (some 1))]) (hₚ := gc_h sh I2 J A) (C := (True ∧ True)) rfl ⟨trivial, trivial⟩ ?_
    refine gv_get hD rfl rfl S_0 ⟨by decide, (gz_sh B_0)⟩ (gc_hA S_0 rfl A_0_12) ?_
    show gv_X _ _ (37, [(0, .inr (.inr (some 0))), (1, .inl a1)], [.inr (.inr (some 124)), .inr (.inr (some u)), .inr (.inr (some 1))], sh, gc_h sh I2 J A)
    refine gv_run 1 true hD (pcₚ := 38) (lvₚ := [(0, .inr (.inr (some 0))), (1, .inl a1)]) (stₚ := [.inl a1, .inr (.inr (some 124)), .inr (.inr (some u)), .inr (.inr (some 1))]) (hₚ := gc_h sh I2 J A) (C := (True ∧ True)) rfl ⟨trivial, trivial⟩ ?_
    refine gv_iald hD rfl S_124 rfl ⟨by decide, (gz_sh B_124)⟩ ⟨by (/-10-/first | omega | (simp only [gz_hd] at *; omega)), by (/-11-/first | omega | (simp only [gz_hd] at *; omega))⟩ (gc_iI S_124 rfl) ?_
    show gv_X _ _ (39, [(0, .inr (.inr (some 0))), (1, .inl a1)], [.inl (I2 124 (Int.toNat a1)), .inr (.inr (some u)), .inr (.inr (some 1))], sh, gc_h sh I2 J A)
    refine gv_run 1 true hD (pcₚ := 40) (lvₚ := [(0, .inr (.inr (some 0))), (1, .inl a1)]) (stₚ := [.inr (.inr (some 0)), .inl (I2 124 (Int.toNat a1)), .inr (.inr (some u)), .inr (.inr (some 1))]) (hₚ := gc_h sh I2 J A) (C := (True ∧ True)) rfl ⟨trivial, trivial⟩ ?_
    refine gv_get hD rfl rfl S_0 ⟨by decide, (gz_sh B_0)⟩ (gc_hA S_0 rfl A_0_2) ?_
    show gv_X _ _ (43, [(0, .inr (.inr (some 0))), (1, .inl a1)], [.inr (.inr (some 27)), .inl (I2 124 (Int.toNat a1)), .inr (.inr (some u)), .inr (.inr (some 1))], sh, gc_h sh I2 J A)
    obtain ⟨r8, h8, E8, P8⟩ := d_X8_writeTree (ws0 := ws0) (tb := tb) hws htb sh ro I2 J A hI2  60 u ((I2 124 (Int.toNat a1))) 27 hb S_u R_u B_u (by decide) (gc_b27 hb)  ⟨by (/-12-/first | (have o1 := gz_sh f4; omega) | (simp only [gz_hd] at *; omega)), by (/-13-/first | (have o1 := gz_sh f4; omega) | (simp only [gz_hd] at *; omega))⟩ (by (/-14-/first | (have o1 := gz_sh f4; omega) | (simp only [gz_hd] at *; omega))) 
    obtain ⟨I9, J10, rfl, hI9, g8, k8, rfl⟩ := P8
    have FI9 := gc_frc (W := fun q j => (q = 27 ∧ j = 1) ∨ q = 28 ∨ q = 22) (V := fun q j => (q = 27 ∧ j = 1) ∨ q = 28 ∨ q = 22) FI2 (fun q j h => (h.elim (fun h => (Or.inl h)) (fun h => (h.elim (fun h => (Or.inr (Or.inl h))) (fun h => (Or.inr (Or.inr h))))))) g8
    obtain rfl : J = J10 := funext fun q => funext fun j => ((k8 q j).resolve_left id).symm
    refine gv_callV hD rfl (As := [.inr (.inr (some u)), .inl (I2 124 (Int.toNat a1)), .inr (.inr (some 27))]) (st := []) rfl (gz_sh B_1) S_1 rfl (gc_lV12 hws rfl) (Nat.le_of_ble_eq_true rfl) (gz_Ev_mono (d := 3) (by decide) E8) ?_
    show gv_X _ _ (46, [(0, .inr (.inr (some 0))), (1, .inl a1)], [], sh, gc_h sh I9 J A)
    refine gv_run 1 true hD (pcₚ := 47) (lvₚ := [(0, .inr (.inr (some 0))), (1, .inl a1)]) (stₚ := [.inr (.inr (some 0))]) (hₚ := gc_h sh I9 J A) (C := (True ∧ True)) rfl ⟨trivial, trivial⟩ ?_
    refine gv_get hD rfl rfl S_0 ⟨by decide, (gz_sh B_0)⟩ (gc_hA S_0 rfl A_0_2) ?_
    show gv_X _ _ (50, [(0, .inr (.inr (some 0))), (1, .inl a1)], [.inr (.inr (some 27))], sh, gc_h sh I9 J A)
    have f11 := gz_hi ((gc_b_3_1 hI9 (gz_sh R_27)))
    refine gv_get hD rfl rfl S_27 ⟨by decide, (gz_sh B_27)⟩ (gc_hI S_27 rfl) ?_
    show gv_X _ _ (53, [(0, .inr (.inr (some 0))), (1, .inl a1)], [.inl (I9 27 1)], sh, gc_h sh I9 J A)
    exact gv_iret hD rfl ⟨I9, J, rfl, hI9, FI9, FJ, ⟨_, rfl, by (/-15-/first | (and_intros; (have o1 := gz_sh f11; omega); (have o1 := gz_sh f11; omega)) | (simp only [gz_hd] at *; omega))⟩⟩
  · show gv_X _ _ (21, [(0, .inr (.inr (some 0))), (1, .inl a1)], [], sh, gc_h sh I2 J A)
    refine gv_run 1 true hD (pcₚ := 22) (lvₚ := [(0, .inr (.inr (some 0))), (1, .inl a1)]) (stₚ := [.inl (-1)]) (hₚ := gc_h sh I2 J A) (C := (True ∧ True)) rfl ⟨trivial, trivial⟩ ?_
    exact gv_iret hD rfl ⟨I2, J, rfl, hI2, FI2, FJ, ⟨_, rfl, by (/-16-/first | (and_intros <;> omega) | (simp only [gz_hd] at *; omega))⟩⟩
set_option maxHeartbeats 8000000 in
set_option maxRecDepth 100000 in
theorem d_X12_same {ws0 : List Cond} {tb : String → gz_T} (hws : gc_Ws ws0) (htb : gc_tbs tb) (sh : gz_Sh) (ro : Nat → Nat) (I : gr_I) (J : gr_J) (A : gc_A) (hI : gc_Inv ro I) (u : Nat) (v : Nat) (a1 : Int) (a2 : Int) (hb : gc_Base sh ro A) (S_u : sh[u]? = some (true, 1, 60)) (R_u : ro u = 37) (B_u : u < 1000000) (S_v : sh[v]? = some (true, 1, 60)) (R_v : ro v = 37) (B_v : v < 1000000) (ha1 : 0 ≤ a1 ∧ a1 ≤ 7) (ha2 : 0 ≤ a2 ∧ a2 ≤ 7) (x0 : A 114 (Int.toNat a1) = some u) (x1 : u = 115 + Int.toNat a1) (x2 : A 114 (Int.toNat a2) = some v) (x3 : v = 115 + Int.toNat a2) : ∃ r hₚ, gz_Ev ws0 tb 2 (yX12_same, cX12_same, 4, (some .boolean)) [.inr (.inr (some 0)), .inl a1, .inl a2] sh (gc_h sh I J A) r sh hₚ 0 0 ∧ (hₚ = gc_h sh I J A ∧ (∃ z : Int, r = some (.inl z) ∧ 0 ≤ z ∧ z ≤ 1)) := by
  have A_0_11 : A 0 11 = some 114 := gc_bA_0_11 hb
  have A_0_12 : A 0 12 = some 124 := gc_bA_0_12 hb
  have B_0 := gz_hi (show 0 < 1000000 from by decide)
  have B_114 := gz_hi (show 114 < 1000000 from by decide)
  have B_124 := gz_hi (show 124 < 1000000 from by decide)
  have R_124 := gz_hi (show ro 124 = 68 from gc_bR_124 hb)
  have S_0 : sh[0]? = some (false, 12, 17) := gc_bS_0 hb
  have S_114 : sh[114]? = some (true, 7, 9) := gc_bS_114 hb
  have S_124 : sh[124]? = some (true, 1, 9) := gc_bS_124 hb
  have hD : gv_D (gc_E12 ws0 tb 1 (yX12_same, cX12_same, 4, (some .boolean)) kX12_same) := gq_of oX12_same
  refine gc_ev12 (d := 1) (l := kX12_same) (Po := fun r hₚ => (hₚ = gc_h sh I J A ∧ (∃ z : Int, r = some (.inl z) ∧ 0 ≤ z ∧ z ≤ 1))) htb rfl (Nat.le_of_ble_eq_true rfl) ?_
  have L27 : ∀ (n9 : Nat) (v3_1 : Int), (61 - v3_1).toNat < n9 → ((0 ≤ a1 ∧ a1 ≤ 7) ∧ (0 ≤ a2 ∧ a2 ≤ 7) ∧ (0 ≤ v3_1 ∧ v3_1 ≤ 60)) → gv_X (gc_E12 ws0 tb 1 (yX12_same, cX12_same, 4, (some .boolean)) kX12_same) (gv_Q cX12_same (some .boolean) sh (fun r hₚ => (hₚ = gc_h sh I J A ∧ (∃ z : Int, r = some (.inl z) ∧ 0 ≤ z ∧ z ≤ 1)))) (27, [(0, .inr (.inr (some 0))), (1, .inl a1), (2, .inl a2), (3, .inl v3_1)], [], sh, gc_h sh I J A) := by
    intro n9
    induction n9 with
    | zero => intro v3_1 hn; (/-0-/first | omega | (simp only [gz_hd] at *; omega))
    | succ n9 ih27 =>
      intro v3_1 hn m_1
      obtain ⟨ha1_1, ha2_1, hv3_1⟩ := gz_h3 m_1
      refine gv_run 2 true hD (pcₚ := 29) (lvₚ := [(0, .inr (.inr (some 0))), (1, .inl a1), (2, .inl a2), (3, .inl v3_1)]) (stₚ := [.inr (.inr (some 0)), .inl v3_1]) (hₚ := gc_h sh I J A) (C := ((True ∧ True) ∧ True)) rfl ⟨⟨trivial, trivial⟩, trivial⟩ ?_
      refine gv_get hD rfl rfl S_0 ⟨by decide, (gz_sh B_0)⟩ (gc_hA S_0 rfl A_0_12) ?_
      show gv_X _ _ (32, [(0, .inr (.inr (some 0))), (1, .inl a1), (2, .inl a2), (3, .inl v3_1)], [.inr (.inr (some 124)), .inl v3_1], sh, gc_h sh I J A)
      refine gv_run 1 true hD (pcₚ := 33) (lvₚ := [(0, .inr (.inr (some 0))), (1, .inl a1), (2, .inl a2), (3, .inl v3_1)]) (stₚ := [.inl a1, .inr (.inr (some 124)), .inl v3_1]) (hₚ := gc_h sh I J A) (C := (True ∧ True)) rfl ⟨trivial, trivial⟩ ?_
      have f2 := gz_hi ((gc_b_68 hI (gz_sh R_124) (Int.toNat a1)))
      refine gv_iald hD rfl S_124 rfl ⟨by decide, (gz_sh B_124)⟩ ⟨by (/-1-/first | omega | (simp only [gz_hd] at *; omega)), by (/-2-/first | omega | (simp only [gz_hd] at *; omega))⟩ (gc_iI S_124 rfl) ?_
      show gv_X _ _ (34, [(0, .inr (.inr (some 0))), (1, .inl a1), (2, .inl a2), (3, .inl v3_1)], [.inl (I 124 (Int.toNat a1)), .inl v3_1], sh, gc_h sh I J A)
      refine gv_icmp_ge (t := 64) hD rfl rfl ⟨⟨by (/-3-/first | (have o1 := gz_sh hv3_1; omega) | (simp only [gz_hd] at *; omega)), by (/-4-/first | (have o1 := gz_sh hv3_1; omega) | (simp only [gz_hd] at *; omega))⟩, ⟨by (/-5-/first | (have o1 := gz_sh f2; omega) | (simp only [gz_hd] at *; omega)), by (/-6-/first | (have o1 := gz_sh f2; omega) | (simp only [gz_hd] at *; omega))⟩⟩ (fun c3 => ?_) (fun c3 => ?_)
      · show gv_X _ _ (64, [(0, .inr (.inr (some 0))), (1, .inl a1), (2, .inl a2), (3, .inl v3_1)], [], sh, gc_h sh I J A)
        refine gv_run 1 true hD (pcₚ := 65) (lvₚ := [(0, .inr (.inr (some 0))), (1, .inl a1), (2, .inl a2), (3, .inl v3_1)]) (stₚ := [.inl 1]) (hₚ := gc_h sh I J A) (C := (True ∧ True)) rfl ⟨trivial, trivial⟩ ?_
        exact gv_zret hD rfl (by (/-7-/first | omega | (simp only [gz_hd] at *; omega))) ⟨rfl, ⟨_, rfl, by (/-8-/first | (and_intros <;> omega) | (simp only [gz_hd] at *; omega))⟩⟩
      · show gv_X _ _ (37, [(0, .inr (.inr (some 0))), (1, .inl a1), (2, .inl a2), (3, .inl v3_1)], [], sh, gc_h sh I J A)
        refine gv_run 1 true hD (pcₚ := 38) (lvₚ := [(0, .inr (.inr (some 0))), (1, .inl a1), (2, .inl a2), (3, .inl v3_1)]) (stₚ := [.inr (.inr (some 0))]) (hₚ := gc_h sh I J A) (C := (True ∧ True)) rfl ⟨trivial, trivial⟩ ?_
        refine gv_get hD rfl rfl S_0 ⟨by decide, (gz_sh B_0)⟩ (gc_hA S_0 rfl A_0_11) ?_
        show gv_X _ _ (41, [(0, .inr (.inr (some 0))), (1, .inl a1), (2, .inl a2), (3, .inl v3_1)], [.inr (.inr (some 114))], sh, gc_h sh I J A)
        refine gv_run 1 true hD (pcₚ := 42) (lvₚ := [(0, .inr (.inr (some 0))), (1, .inl a1), (2, .inl a2), (3, .inl v3_1)]) (stₚ := [.inl a1, .inr (.inr (some 114))]) (hₚ := gc_h sh I J A) (C := (True ∧ True)) rfl ⟨trivial, trivial⟩ ?_
        refine gv_aald hD rfl S_114 ⟨by decide, by decide⟩ ⟨by decide, (gz_sh B_114)⟩ ⟨by (/-9-/first | omega | (simp only [gz_hd] at *; omega)), by (/-10-/first | omega | (simp only [gz_hd] at *; omega))⟩ ((gc_aA S_114 rfl).trans x0) ?_
        show gv_X _ _ (43, [(0, .inr (.inr (some 0))), (1, .inl a1), (2, .inl a2), (3, .inl v3_1)], [.inr (.inr (some u))], sh, gc_h sh I J A)
        refine gv_run 1 true hD (pcₚ := 44) (lvₚ := [(0, .inr (.inr (some 0))), (1, .inl a1), (2, .inl a2), (3, .inl v3_1)]) (stₚ := [.inl v3_1, .inr (.inr (some u))]) (hₚ := gc_h sh I J A) (C := (True ∧ True)) rfl ⟨trivial, trivial⟩ ?_
        have f5 := gz_hi ((show 0 ≤ I u (Int.toNat v3_1) ∧ I u (Int.toNat v3_1) ≤ 95 from gc_in2 hI R_u rfl rfl rfl))
        refine gv_iald hD rfl S_u rfl ⟨by decide, B_u⟩ ⟨by (/-11-/first | (have o1 := gz_sh hv3_1; omega) | (simp only [gz_hd] at *; omega)), by (/-12-/first | (have o1 := gz_sh f2; omega) | (simp only [gz_hd] at *; omega))⟩ (gc_iI S_u rfl) ?_
        show gv_X _ _ (45, [(0, .inr (.inr (some 0))), (1, .inl a1), (2, .inl a2), (3, .inl v3_1)], [.inl (I u (Int.toNat v3_1))], sh, gc_h sh I J A)
        refine gv_run 1 true hD (pcₚ := 46) (lvₚ := [(0, .inr (.inr (some 0))), (1, .inl a1), (2, .inl a2), (3, .inl v3_1)]) (stₚ := [.inr (.inr (some 0)), .inl (I u (Int.toNat v3_1))]) (hₚ := gc_h sh I J A) (C := (True ∧ True)) rfl ⟨trivial, trivial⟩ ?_
        refine gv_get hD rfl rfl S_0 ⟨by decide, (gz_sh B_0)⟩ (gc_hA S_0 rfl A_0_11) ?_
        show gv_X _ _ (49, [(0, .inr (.inr (some 0))), (1, .inl a1), (2, .inl a2), (3, .inl v3_1)], [.inr (.inr (some 114)), .inl (I u (Int.toNat v3_1))], sh, gc_h sh I J A)
        refine gv_run 1 true hD (pcₚ := 50) (lvₚ := [(0, .inr (.inr (some 0))), (1, .inl a1), (2, .inl a2), (3, .inl v3_1)]) (stₚ := [.inl a2, .inr (.inr (some 114)), .inl (I u (Int.toNat v3_1))]) (hₚ := gc_h sh I J A) (C := (True ∧ True)) rfl ⟨trivial, trivial⟩ ?_
        refine gv_aald hD rfl S_114 ⟨by decide, by decide⟩ ⟨by decide, (gz_sh B_114)⟩ ⟨by (/-13-/first | omega | (simp only [gz_hd] at *; omega)), by (/-14-/first | omega | (simp only [gz_hd] at *; omega))⟩ ((gc_aA S_114 rfl).trans x2) ?_
        show gv_X _ _ (51, [(0, .inr (.inr (some 0))), (1, .inl a1), (2, .inl a2), (3, .inl v3_1)], [.inr (.inr (some v)), .inl (I u (Int.toNat v3_1))], sh, gc_h sh I J A)
        refine gv_run 1 true hD (pcₚ := 52) (lvₚ := [(0, .inr (.inr (some 0))), (1, .inl a1), (2, .inl a2), (3, .inl v3_1)]) (stₚ := [.inl v3_1, .inr (.inr (some v)), .inl (I u (Int.toNat v3_1))]) (hₚ := gc_h sh I J A) (C := (True ∧ True)) rfl ⟨trivial, trivial⟩ ?_
        have f7 := gz_hi ((show 0 ≤ I v (Int.toNat v3_1) ∧ I v (Int.toNat v3_1) ≤ 95 from gc_in2 hI R_v rfl rfl rfl))
        refine gv_iald hD rfl S_v rfl ⟨by decide, B_v⟩ ⟨by (/-15-/first | (have o1 := gz_sh hv3_1; omega) | (simp only [gz_hd] at *; omega)), by (/-16-/first | (have o1 := gz_sh f2; omega) | (simp only [gz_hd] at *; omega))⟩ (gc_iI S_v rfl) ?_
        show gv_X _ _ (53, [(0, .inr (.inr (some 0))), (1, .inl a1), (2, .inl a2), (3, .inl v3_1)], [.inl (I v (Int.toNat v3_1)), .inl (I u (Int.toNat v3_1))], sh, gc_h sh I J A)
        refine gv_icmp_eq (t := 58) hD rfl rfl ⟨⟨by (/-17-/first | (have o1 := gz_sh f5; omega) | (simp only [gz_hd] at *; omega)), by (/-18-/first | (have o1 := gz_sh f5; omega) | (simp only [gz_hd] at *; omega))⟩, ⟨by (/-19-/first | (have o1 := gz_sh f7; omega) | (simp only [gz_hd] at *; omega)), by (/-20-/first | (have o1 := gz_sh f7; omega) | (simp only [gz_hd] at *; omega))⟩⟩ (fun c8 => ?_) (fun c8 => ?_)
        · show gv_X _ _ (58, [(0, .inr (.inr (some 0))), (1, .inl a1), (2, .inl a2), (3, .inl v3_1)], [], sh, gc_h sh I J A)
          refine gv_run 2 true hD (pcₚ := 27) (lvₚ := [(3, .inl (v3_1 + 1)), (0, .inr (.inr (some 0))), (1, .inl a1), (2, .inl a2)]) (stₚ := []) (hₚ := gc_h sh I J A) (C := ((True ∧ True) ∧ True)) rfl ⟨⟨trivial, trivial⟩, trivial⟩ ?_
          refine gv_pick [1, 2, 3, 0] rfl ?_
          exact ih27 (v3_1 + 1) (by (/-21-/first | (have o1 := gz_sh f2; have o2 := gz_sh hv3_1; omega) | (simp only [gz_hd] at *; omega))) (by (/-22-/first | (and_intros; (omega); (omega); (omega); (omega); (have o1 := gz_sh hv3_1; omega); (have o1 := gz_sh f2; omega)) | (simp only [gz_hd] at *; omega)))
        · show gv_X _ _ (56, [(0, .inr (.inr (some 0))), (1, .inl a1), (2, .inl a2), (3, .inl v3_1)], [], sh, gc_h sh I J A)
          refine gv_run 1 true hD (pcₚ := 57) (lvₚ := [(0, .inr (.inr (some 0))), (1, .inl a1), (2, .inl a2), (3, .inl v3_1)]) (stₚ := [.inl 0]) (hₚ := gc_h sh I J A) (C := (True ∧ True)) rfl ⟨trivial, trivial⟩ ?_
          exact gv_zret hD rfl (by (/-23-/first | omega | (simp only [gz_hd] at *; omega))) ⟨rfl, ⟨_, rfl, by (/-24-/first | (and_intros <;> omega) | (simp only [gz_hd] at *; omega))⟩⟩
  refine gv_run 1 true hD (pcₚ := 1) (lvₚ := [(0, .inr (.inr (some 0))), (1, .inl a1), (2, .inl a2)]) (stₚ := [.inl a1]) (hₚ := gc_h sh I J A) (C := (True ∧ True)) rfl ⟨trivial, trivial⟩ ?_
  obtain ⟨r9, h9, E9, P9⟩ := d_X12_checkPlace (ws0 := ws0) (tb := tb) hws htb sh ro I J A hI  a1 hb   ⟨by (/-25-/first | omega | (simp only [gz_hd] at *; omega)), by (/-26-/first | omega | (simp only [gz_hd] at *; omega))⟩  
  obtain ⟨rfl, rfl⟩ := P9
  refine gv_callS hD rfl (As := [.inl a1]) (st := []) rfl (gc_lS12 hws rfl) (Nat.le_of_ble_eq_true rfl) (gz_Ev_mono (d := 1) (by decide) E9) ?_
  show gv_X _ _ (4, [(0, .inr (.inr (some 0))), (1, .inl a1), (2, .inl a2)], [], sh, gc_h sh I J A)
  refine gv_run 1 true hD (pcₚ := 5) (lvₚ := [(0, .inr (.inr (some 0))), (1, .inl a1), (2, .inl a2)]) (stₚ := [.inl a2]) (hₚ := gc_h sh I J A) (C := (True ∧ True)) rfl ⟨trivial, trivial⟩ ?_
  obtain ⟨r10, h10, E10, P10⟩ := d_X12_checkPlace (ws0 := ws0) (tb := tb) hws htb sh ro I J A hI  a2 hb   ⟨by (/-27-/first | omega | (simp only [gz_hd] at *; omega)), by (/-28-/first | omega | (simp only [gz_hd] at *; omega))⟩  
  obtain ⟨rfl, rfl⟩ := P10
  refine gv_callS hD rfl (As := [.inl a2]) (st := []) rfl (gc_lS12 hws rfl) (Nat.le_of_ble_eq_true rfl) (gz_Ev_mono (d := 1) (by decide) E10) ?_
  show gv_X _ _ (8, [(0, .inr (.inr (some 0))), (1, .inl a1), (2, .inl a2)], [], sh, gc_h sh I J A)
  refine gv_run 1 true hD (pcₚ := 9) (lvₚ := [(0, .inr (.inr (some 0))), (1, .inl a1), (2, .inl a2)]) (stₚ := [.inr (.inr (some 0))]) (hₚ := gc_h sh I J A) (C := (True ∧ True)) rfl ⟨trivial, trivial⟩ ?_
  refine gv_get hD rfl rfl S_0 ⟨by decide, (gz_sh B_0)⟩ (gc_hA S_0 rfl A_0_12) ?_
  show gv_X _ _ (12, [(0, .inr (.inr (some 0))), (1, .inl a1), (2, .inl a2)], [.inr (.inr (some 124))], sh, gc_h sh I J A)
  refine gv_run 1 true hD (pcₚ := 13) (lvₚ := [(0, .inr (.inr (some 0))), (1, .inl a1), (2, .inl a2)]) (stₚ := [.inl a1, .inr (.inr (some 124))]) (hₚ := gc_h sh I J A) (C := (True ∧ True)) rfl ⟨trivial, trivial⟩ ?_
  have f11 := gz_hi ((gc_b_68 hI (gz_sh R_124) (Int.toNat a1)))
  refine gv_iald hD rfl S_124 rfl ⟨by decide, (gz_sh B_124)⟩ ⟨by (/-29-/first | omega | (simp only [gz_hd] at *; omega)), by (/-30-/first | omega | (simp only [gz_hd] at *; omega))⟩ (gc_iI S_124 rfl) ?_
  show gv_X _ _ (14, [(0, .inr (.inr (some 0))), (1, .inl a1), (2, .inl a2)], [.inl (I 124 (Int.toNat a1))], sh, gc_h sh I J A)
  refine gv_run 1 true hD (pcₚ := 15) (lvₚ := [(0, .inr (.inr (some 0))), (1, .inl a1), (2, .inl a2)]) (stₚ := [.inr (.inr (some 0)), .inl (I 124 (Int.toNat a1))]) (hₚ := gc_h sh I J A) (C := (True ∧ True)) rfl ⟨trivial, trivial⟩ ?_
  refine gv_get hD rfl rfl S_0 ⟨by decide, (gz_sh B_0)⟩ (gc_hA S_0 rfl A_0_12) ?_
  show gv_X _ _ (18, [(0, .inr (.inr (some 0))), (1, .inl a1), (2, .inl a2)], [.inr (.inr (some 124)), .inl (I 124 (Int.toNat a1))], sh, gc_h sh I J A)
  refine gv_run 1 true hD (pcₚ := 19) (lvₚ := [(0, .inr (.inr (some 0))), (1, .inl a1), (2, .inl a2)]) (stₚ := [.inl a2, .inr (.inr (some 124)), .inl (I 124 (Int.toNat a1))]) (hₚ := gc_h sh I J A) (C := (True ∧ True)) rfl ⟨trivial, trivial⟩ ?_
  have f12 := gz_hi ((gc_b_68 hI (gz_sh R_124) (Int.toNat a2)))
  refine gv_iald hD rfl S_124 rfl ⟨by decide, (gz_sh B_124)⟩ ⟨by (/-31-/first | omega | (simp only [gz_hd] at *; omega)), by (/-32-/first | omega | (simp only [gz_hd] at *; omega))⟩ (gc_iI S_124 rfl) ?_
  show gv_X _ _ (20, [(0, .inr (.inr (some 0))), (1, .inl a1), (2, .inl a2)], [.inl (I 124 (Int.toNat a2)), .inl (I 124 (Int.toNat a1))], sh, gc_h sh I J A)
  refine gv_icmp_eq (t := 25) hD rfl rfl ⟨⟨by (/-33-/first | (have o1 := gz_sh f11; omega) | (simp only [gz_hd] at *; omega)), by (/-34-/first | (have o1 := gz_sh f11; omega) | (simp only [gz_hd] at *; omega))⟩, ⟨by (/-35-/first | (have o1 := gz_sh f12; omega) | (simp only [gz_hd] at *; omega)), by (/-36-/first | (have o1 := gz_sh f12; omega) | (simp only [gz_hd] at *; omega))⟩⟩ (fun c13 => ?_) (fun c13 => ?_)
  · show gv_X _ _ (25, [(0, .inr (.inr (some 0))), (1, .inl a1), (2, .inl a2)], [], sh, gc_h sh I J A)
    refine gv_run 2 true hD (pcₚ := 27) (lvₚ := [(3, .inl 0), (0, .inr (.inr (some 0))), (1, .inl a1), (2, .inl a2)]) (stₚ := []) (hₚ := gc_h sh I J A) (C := ((True ∧ True) ∧ True)) rfl ⟨⟨trivial, trivial⟩, trivial⟩ ?_
    refine gv_pick [1, 2, 3, 0] rfl ?_
    exact L27 _ 0 (Nat.lt_succ_self _) (by (/-37-/first | (and_intros <;> omega) | (simp only [gz_hd] at *; omega)))
  · show gv_X _ _ (23, [(0, .inr (.inr (some 0))), (1, .inl a1), (2, .inl a2)], [], sh, gc_h sh I J A)
    refine gv_run 1 true hD (pcₚ := 24) (lvₚ := [(0, .inr (.inr (some 0))), (1, .inl a1), (2, .inl a2)]) (stₚ := [.inl 0]) (hₚ := gc_h sh I J A) (C := (True ∧ True)) rfl ⟨trivial, trivial⟩ ?_
    exact gv_zret hD rfl (by (/-38-/first | omega | (simp only [gz_hd] at *; omega))) ⟨rfl, ⟨_, rfl, by (/-39-/first | (and_intros <;> omega) | (simp only [gz_hd] at *; omega))⟩⟩
set_option maxHeartbeats 8000000 in
set_option maxRecDepth 100000 in
theorem d_X12_candidate {ws0 : List Cond} {tb : String → gz_T} (hws : gc_Ws ws0) (htb : gc_tbs tb) (sh : gz_Sh) (ro : Nat → Nat) (I : gr_I) (J : gr_J) (A : gc_A) (hI : gc_Inv ro I) (a1 : Int) (hb : gc_Base sh ro A) (ha1 : (-2147483648) ≤ a1 ∧ a1 ≤ 2147483647)  : ∃ r hₚ, gz_Ev ws0 tb 3 (yX12_candidate, cX12_candidate, 2, (some .int)) [.inr (.inr (some 0)), .inl a1] sh (gc_h sh I J A) r sh hₚ 0 0 ∧ (∃ (Iₚ : gr_I) (Jₚ : gr_J), hₚ = gc_h sh Iₚ Jₚ A ∧ gc_Inv ro Iₚ ∧ (∀ q j : Nat, ((q = 27 ∧ j = 1) ∨ q = 28) ∨ Iₚ q j = I q j) ∧ (∀ q j : Nat, (False) ∨ Jₚ q j = J q j) ∧ (∃ z : Int, r = some (.inl z) ∧ (-1) ≤ z ∧ z ≤ 1000)) := by
  have FI : ∀ q j : Nat, ((q = 27 ∧ j = 1) ∨ q = 28) ∨ I q j = I q j := fun _ _ => Or.inr rfl
  have FJ : ∀ q j : Nat, (False) ∨ J q j = J q j := fun _ _ => Or.inr rfl
  have A_0_13 : A 0 13 = some 125 := gc_bA_0_13 hb
  have A_0_14 : A 0 14 = some 142 := gc_bA_0_14 hb
  have A_0_2 : A 0 2 = some 27 := gc_bA_0_2 hb
  have B_0 := gz_hi (show 0 < 1000000 from by decide)
  have B_125 := gz_hi (show 125 < 1000000 from by decide)
  have B_142 := gz_hi (show 142 < 1000000 from by decide)
  have B_27 := gz_hi (show 27 < 1000000 from by decide)
  have R_0 := gz_hi (show ro 0 = 76 from gc_bR_0 hb)
  have R_142 := gz_hi (show ro 142 = 69 from gc_bR_142 hb)
  have R_27 := gz_hi (show ro 27 = 3 from gc_bR_27 hb)
  have S_0 : sh[0]? = some (false, 12, 17) := gc_bS_0 hb
  have S_125 : sh[125]? = some (true, 6, 16) := gc_bS_125 hb
  have S_142 : sh[142]? = some (true, 1, 16) := gc_bS_142 hb
  have S_27 : sh[27]? = some (false, 9, 10) := gc_bS_27 hb
  have hD : gv_D (gc_E12 ws0 tb 2 (yX12_candidate, cX12_candidate, 2, (some .int)) kX12_candidate) := gq_of oX12_candidate
  refine gc_ev12 (d := 2) (l := kX12_candidate) (Po := fun r hₚ => (∃ (Iₚ : gr_I) (Jₚ : gr_J), hₚ = gc_h sh Iₚ Jₚ A ∧ gc_Inv ro Iₚ ∧ (∀ q j : Nat, ((q = 27 ∧ j = 1) ∨ q = 28) ∨ Iₚ q j = I q j) ∧ (∀ q j : Nat, (False) ∨ Jₚ q j = J q j) ∧ (∃ z : Int, r = some (.inl z) ∧ (-1) ≤ z ∧ z ≤ 1000))) htb rfl (Nat.le_of_ble_eq_true rfl) ?_
  have L20 : ∀ (I1 : gr_I) (J2 : gr_J) , gc_Inv ro I1 → (∀ q j : Nat, ((q = 27 ∧ j = 1) ∨ q = 28) ∨ I1 q j = I q j) → (∀ q j : Nat, (False) ∨ J2 q j = J q j) → gv_X (gc_E12 ws0 tb 2 (yX12_candidate, cX12_candidate, 2, (some .int)) kX12_candidate) (gv_Q cX12_candidate (some .int) sh (fun r hₚ => (∃ (Iₚ : gr_I) (Jₚ : gr_J), hₚ = gc_h sh Iₚ Jₚ A ∧ gc_Inv ro Iₚ ∧ (∀ q j : Nat, ((q = 27 ∧ j = 1) ∨ q = 28) ∨ Iₚ q j = I q j) ∧ (∀ q j : Nat, (False) ∨ Jₚ q j = J q j) ∧ (∃ z : Int, r = some (.inl z) ∧ (-1) ≤ z ∧ z ≤ 1000)))) (20, [], [], sh, gc_h sh I1 J2 A) := by
    intro I1 J2 hI1 FI1 FJ2
    refine gv_run 1 true hD (pcₚ := 21) (lvₚ := []) (stₚ := [.inl (-1)]) (hₚ := gc_h sh I1 J2 A) (C := (True ∧ True)) rfl ⟨trivial, trivial⟩ ?_
    exact gv_iret hD rfl ⟨I1, J2, rfl, hI1, FI1, FJ2, ⟨_, rfl, by (/-0-/first | (and_intros <;> omega) | (simp only [gz_hd] at *; omega))⟩⟩
  refine gv_run 1 true hD (pcₚ := 1) (lvₚ := [(0, .inr (.inr (some 0))), (1, .inl a1)]) (stₚ := [.inr (.inr (some 0))]) (hₚ := gc_h sh I J A) (C := (True ∧ True)) rfl ⟨trivial, trivial⟩ ?_
  refine gv_get hD rfl rfl S_0 ⟨by decide, (gz_sh B_0)⟩ (gc_hA S_0 rfl A_0_2) ?_
  show gv_X _ _ (4, [(0, .inr (.inr (some 0))), (1, .inl a1)], [.inr (.inr (some 27))], sh, gc_h sh I J A)
  refine gv_run 1 true hD (pcₚ := 5) (lvₚ := [(0, .inr (.inr (some 0))), (1, .inl a1)]) (stₚ := [.inl 0, .inr (.inr (some 27))]) (hₚ := gc_h sh I J A) (C := (True ∧ True)) rfl ⟨trivial, trivial⟩ ?_
  refine gv_put hD rfl rfl S_27 ⟨by decide, (gz_sh B_27)⟩ rfl trivial ?_
  refine gc_st (k := 1) hI S_27 rfl (gz_sh R_27) (lo := 0) (hi := 1000) rfl rfl (by (/-1-/first | omega | (simp only [gz_hd] at *; omega))) (by (/-2-/first | omega | (simp only [gz_hd] at *; omega))) (fun I4 hI4 q5 p5 => ?_)
  have FI4 := gc_frs (W := fun q j => (q = 27 ∧ j = 1) ∨ q = 28) FI (Or.inl ⟨rfl, rfl⟩) p5
  show gv_X _ _ (8, [(0, .inr (.inr (some 0))), (1, .inl a1)], [], sh, gc_h sh I4 J A)
  refine gv_run 1 true hD (pcₚ := 9) (lvₚ := [(0, .inr (.inr (some 0))), (1, .inl a1)]) (stₚ := [.inl a1]) (hₚ := gc_h sh I4 J A) (C := (True ∧ True)) rfl ⟨trivial, trivial⟩ ?_
  refine gv_if_lt (t := 20) hD rfl rfl ⟨by (/-3-/first | omega | (simp only [gz_hd] at *; omega)), by (/-4-/first | omega | (simp only [gz_hd] at *; omega))⟩ (fun c6 => ?_) (fun c6 => ?_)
  · show gv_X _ _ (20, [(0, .inr (.inr (some 0))), (1, .inl a1)], [], sh, gc_h sh I4 J A)
    refine gv_pick [] rfl ?_
    exact L20 I4 J hI4 FI4 FJ
  · show gv_X _ _ (12, [(0, .inr (.inr (some 0))), (1, .inl a1)], [], sh, gc_h sh I4 J A)
    refine gv_run 2 true hD (pcₚ := 14) (lvₚ := [(0, .inr (.inr (some 0))), (1, .inl a1)]) (stₚ := [.inr (.inr (some 0)), .inl a1]) (hₚ := gc_h sh I4 J A) (C := ((True ∧ True) ∧ True)) rfl ⟨⟨trivial, trivial⟩, trivial⟩ ?_
    have f7 := gz_hi ((gc_b_76_15 hI4 (gz_sh R_0)))
    refine gv_get hD rfl rfl S_0 ⟨by decide, (gz_sh B_0)⟩ (gc_hI S_0 rfl) ?_
    show gv_X _ _ (17, [(0, .inr (.inr (some 0))), (1, .inl a1)], [.inl (I4 0 15), .inl a1], sh, gc_h sh I4 J A)
    refine gv_icmp_lt (t := 22) hD rfl rfl ⟨⟨by (/-5-/first | omega | (simp only [gz_hd] at *; omega)), by (/-6-/first | omega | (simp only [gz_hd] at *; omega))⟩, ⟨by (/-7-/first | (have o1 := gz_sh f7; omega) | (simp only [gz_hd] at *; omega)), by (/-8-/first | (have o1 := gz_sh f7; omega) | (simp only [gz_hd] at *; omega))⟩⟩ (fun c8 => ?_) (fun c8 => ?_)
    · show gv_X _ _ (22, [(0, .inr (.inr (some 0))), (1, .inl a1)], [], sh, gc_h sh I4 J A)
      refine gv_run 1 true hD (pcₚ := 23) (lvₚ := [(0, .inr (.inr (some 0))), (1, .inl a1)]) (stₚ := [.inr (.inr (some 0))]) (hₚ := gc_h sh I4 J A) (C := (True ∧ True)) rfl ⟨trivial, trivial⟩ ?_
      refine gv_get hD rfl rfl S_0 ⟨by decide, (gz_sh B_0)⟩ (gc_hA S_0 rfl A_0_2) ?_
      show gv_X _ _ (26, [(0, .inr (.inr (some 0))), (1, .inl a1)], [.inr (.inr (some 27))], sh, gc_h sh I4 J A)
      refine gv_run 1 true hD (pcₚ := 27) (lvₚ := [(0, .inr (.inr (some 0))), (1, .inl a1)]) (stₚ := [.inr (.inr (some 0)), .inr (.inr (some 27))]) (hₚ := gc_h sh I4 J A) (C := (True ∧ True)) rfl ⟨trivial, trivial⟩ ?_
      refine gv_get hD rfl rfl S_0 ⟨by decide, (gz_sh B_0)⟩ (gc_hA S_0 rfl A_0_13) ?_
      show gv_X _ _ (30, [(0, .inr (.inr (some 0))), (1, .inl a1)], [.inr (.inr (some 125)), .inr (.inr (some 27))], sh, gc_h sh I4 J A)
      refine gv_run 1 true hD (pcₚ := 31) (lvₚ := [(0, .inr (.inr (some 0))), (1, .inl a1)]) (stₚ := [.inl a1, .inr (.inr (some 125)), .inr (.inr (some 27))]) (hₚ := gc_h sh I4 J A) (C := (True ∧ True)) rfl ⟨trivial, trivial⟩ ?_
      obtain ⟨t9_, A_t9, S_t9, R_t9, B_t9, D_t9⟩ := gh_cand hb (Int.toNat a1) (by (/-9-/first | (have o1 := gz_sh f7; omega) | (simp only [gz_hd] at *; omega)))
      refine gv_aald hD rfl S_125 ⟨by decide, by decide⟩ ⟨by decide, (gz_sh B_125)⟩ ⟨by (/-10-/first | omega | (simp only [gz_hd] at *; omega)), by (/-11-/first | (have o1 := gz_sh f7; omega) | (simp only [gz_hd] at *; omega))⟩ ((gc_aA S_125 rfl).trans A_t9) ?_
      show gv_X _ _ (32, [(0, .inr (.inr (some 0))), (1, .inl a1)], [.inr (.inr (some t9_)), .inr (.inr (some 27))], sh, gc_h sh I4 J A)
      refine gv_run 2 true hD (pcₚ := 34) (lvₚ := [(0, .inr (.inr (some 0))), (1, .inl a1)]) (stₚ := [.inr (.inr (some 0)), .inl 0, .inr (.inr (some t9_)), .inr (.inr (some 27))]) (hₚ := gc_h sh I4 J A) (C := ((True ∧ True) ∧ True)) rfl ⟨⟨trivial, trivial⟩, trivial⟩ ?_
      refine gv_get hD rfl rfl S_0 ⟨by decide, (gz_sh B_0)⟩ (gc_hA S_0 rfl A_0_14) ?_
      show gv_X _ _ (37, [(0, .inr (.inr (some 0))), (1, .inl a1)], [.inr (.inr (some 142)), .inl 0, .inr (.inr (some t9_)), .inr (.inr (some 27))], sh, gc_h sh I4 J A)
      refine gv_run 1 true hD (pcₚ := 38) (lvₚ := [(0, .inr (.inr (some 0))), (1, .inl a1)]) (stₚ := [.inl a1, .inr (.inr (some 142)), .inl 0, .inr (.inr (some t9_)), .inr (.inr (some 27))]) (hₚ := gc_h sh I4 J A) (C := (True ∧ True)) rfl ⟨trivial, trivial⟩ ?_
      have f10 := gz_hi ((gc_b_69 hI4 (gz_sh R_142) (Int.toNat a1)))
      refine gv_iald hD rfl S_142 rfl ⟨by decide, (gz_sh B_142)⟩ ⟨by (/-12-/first | omega | (simp only [gz_hd] at *; omega)), by (/-13-/first | (have o1 := gz_sh f7; omega) | (simp only [gz_hd] at *; omega))⟩ (gc_iI S_142 rfl) ?_
      show gv_X _ _ (39, [(0, .inr (.inr (some 0))), (1, .inl a1)], [.inl (I4 142 (Int.toNat a1)), .inl 0, .inr (.inr (some t9_)), .inr (.inr (some 27))], sh, gc_h sh I4 J A)
      obtain ⟨r11, h11, E11, P11⟩ := d_X9_putBytes (ws0 := ws0) (tb := tb) hws htb sh ro I4 J A hI4 27 200 t9_ 0 ((I4 142 (Int.toNat a1))) (gc_b27 hb) S_t9 R_t9 B_t9 (by decide)  ⟨by (/-14-/first | omega | (simp only [gz_hd] at *; omega)), by (/-15-/first | omega | (simp only [gz_hd] at *; omega))⟩ ⟨by (/-16-/first | (have o1 := gz_sh f10; omega) | (simp only [gz_hd] at *; omega)), by (/-17-/first | (have o1 := gz_sh f10; omega) | (simp only [gz_hd] at *; omega))⟩  
      obtain ⟨I12, J13, rfl, hI12, g11, k11, rfl⟩ := P11
      have FI12 := gc_frc (W := fun q j => (q = 27 ∧ j = 1) ∨ q = 28) (V := fun q j => (q = 27 ∧ j = 1) ∨ q = 28) FI4 (fun q j h => (h.elim (fun h => (Or.inl h)) (fun h => (Or.inr h)))) g11
      obtain rfl : J = J13 := funext fun q => funext fun j => ((k11 q j).resolve_left id).symm
      refine gv_callV hD rfl (As := [.inr (.inr (some t9_)), .inl 0, .inl (I4 142 (Int.toNat a1))]) (st := []) rfl (gz_sh B_27) S_27 rfl (gc_lV12 hws rfl) (Nat.le_of_ble_eq_true rfl) (gz_Ev_mono (d := 2) (by decide) E11) ?_
      show gv_X _ _ (42, [(0, .inr (.inr (some 0))), (1, .inl a1)], [], sh, gc_h sh I12 J A)
      refine gv_run 1 true hD (pcₚ := 43) (lvₚ := [(0, .inr (.inr (some 0))), (1, .inl a1)]) (stₚ := [.inr (.inr (some 0))]) (hₚ := gc_h sh I12 J A) (C := (True ∧ True)) rfl ⟨trivial, trivial⟩ ?_
      refine gv_get hD rfl rfl S_0 ⟨by decide, (gz_sh B_0)⟩ (gc_hA S_0 rfl A_0_2) ?_
      show gv_X _ _ (46, [(0, .inr (.inr (some 0))), (1, .inl a1)], [.inr (.inr (some 27))], sh, gc_h sh I12 J A)
      have f14 := gz_hi ((gc_b_3_1 hI12 (gz_sh R_27)))
      refine gv_get hD rfl rfl S_27 ⟨by decide, (gz_sh B_27)⟩ (gc_hI S_27 rfl) ?_
      show gv_X _ _ (49, [(0, .inr (.inr (some 0))), (1, .inl a1)], [.inl (I12 27 1)], sh, gc_h sh I12 J A)
      exact gv_iret hD rfl ⟨I12, J, rfl, hI12, FI12, FJ, ⟨_, rfl, by (/-18-/first | (and_intros; (have o1 := gz_sh f14; omega); (have o1 := gz_sh f14; omega)) | (simp only [gz_hd] at *; omega))⟩⟩
    · show gv_X _ _ (20, [(0, .inr (.inr (some 0))), (1, .inl a1)], [], sh, gc_h sh I4 J A)
      refine gv_pick [] rfl ?_
      exact L20 I4 J hI4 FI4 FJ
set_option maxHeartbeats 8000000 in
set_option maxRecDepth 100000 in
theorem d_X12_meaningOf {ws0 : List Cond} {tb : String → gz_T} (hws : gc_Ws ws0) (htb : gc_tbs tb) (sh : gz_Sh) (ro : Nat → Nat) (I : gr_I) (J : gr_J) (A : gc_A) (hI : gc_Inv ro I) (u : Nat) (a1 : Int) (hb : gc_Base sh ro A) (S_u : sh[u]? = some (true, 1, 60)) (R_u : ro u = 37) (B_u : u < 1000000) (ha1 : 0 ≤ a1 ∧ a1 ≤ 7) (x0 : A 114 (Int.toNat a1) = some u) (x1 : u = 115 + Int.toNat a1) (x2 : I 86 2 + I 86 4 = 1) (x3 : I 124 (Int.toNat a1) = 0 ∨ gc_wtr I u (I 124 (Int.toNat a1))) (x4 : gc_MS I) : ∃ r hₚ, gz_Ev ws0 tb 6 (yX12_meaningOf, cX12_meaningOf, 2, (some .int)) [.inr (.inr (some 0)), .inl a1] sh (gc_h sh I J A) r sh hₚ 0 0 ∧ (∃ (Iₚ : gr_I) (Jₚ : gr_J), hₚ = gc_h sh Iₚ Jₚ A ∧ gc_Inv ro Iₚ ∧ (∀ q j : Nat, (q = 87 ∨ q = 89 ∨ (q = 86 ∧ j = 1) ∨ (q = 86 ∧ j = 2) ∨ (q = 86 ∧ j = 3) ∨ (q = 86 ∧ j = 4) ∨ (q = 86 ∧ j = 5) ∨ q = 91 ∨ q = 22 ∨ q = 92 ∨ q = 93) ∨ Iₚ q j = I q j) ∧ (∀ q j : Nat, (q = 88 ∨ q = 90) ∨ Jₚ q j = J q j) ∧ (∃ z : Int, r = some (.inl z) ∧ (-4) ≤ z ∧ z ≤ 0 ∧ (Iₚ 86 2 + Iₚ 86 4 = 1) ∧ (z < 0 ∨ gc_TC (Iₚ (86 + 1 + 2 * Int.toNat (Iₚ 86 2))) (Iₚ 86 1)))) := by
  have FI : ∀ q j : Nat, (q = 87 ∨ q = 89 ∨ (q = 86 ∧ j = 1) ∨ (q = 86 ∧ j = 2) ∨ (q = 86 ∧ j = 3) ∨ (q = 86 ∧ j = 4) ∨ (q = 86 ∧ j = 5) ∨ q = 91 ∨ q = 22 ∨ q = 92 ∨ q = 93) ∨ I q j = I q j := fun _ _ => Or.inr rfl
  have FJ : ∀ q j : Nat, (q = 88 ∨ q = 90) ∨ J q j = J q j := fun _ _ => Or.inr rfl
  have A_0_11 : A 0 11 = some 114 := gc_bA_0_11 hb
  have A_0_12 : A 0 12 = some 124 := gc_bA_0_12 hb
  have A_0_9 : A 0 9 = some 86 := gc_bA_0_9 hb
  have B_0 := gz_hi (show 0 < 1000000 from by decide)
  have B_114 := gz_hi (show 114 < 1000000 from by decide)
  have B_124 := gz_hi (show 124 < 1000000 from by decide)
  have B_86 := gz_hi (show 86 < 1000000 from by decide)
  have R_124 := gz_hi (show ro 124 = 68 from gc_bR_124 hb)
  have R_86 := gz_hi (show ro 86 = 74 from gc_bR_86 hb)
  have S_0 : sh[0]? = some (false, 12, 17) := gc_bS_0 hb
  have S_114 : sh[114]? = some (true, 7, 9) := gc_bS_114 hb
  have S_124 : sh[124]? = some (true, 1, 9) := gc_bS_124 hb
  have S_86 : sh[86]? = some (false, 10, 19) := gc_bS_86 hb
  have hD : gv_D (gc_E12 ws0 tb 5 (yX12_meaningOf, cX12_meaningOf, 2, (some .int)) kX12_meaningOf) := gq_of oX12_meaningOf
  refine gc_ev12 (d := 5) (l := kX12_meaningOf) (Po := fun r hₚ => (∃ (Iₚ : gr_I) (Jₚ : gr_J), hₚ = gc_h sh Iₚ Jₚ A ∧ gc_Inv ro Iₚ ∧ (∀ q j : Nat, (q = 87 ∨ q = 89 ∨ (q = 86 ∧ j = 1) ∨ (q = 86 ∧ j = 2) ∨ (q = 86 ∧ j = 3) ∨ (q = 86 ∧ j = 4) ∨ (q = 86 ∧ j = 5) ∨ q = 91 ∨ q = 22 ∨ q = 92 ∨ q = 93) ∨ Iₚ q j = I q j) ∧ (∀ q j : Nat, (q = 88 ∨ q = 90) ∨ Jₚ q j = J q j) ∧ (∃ z : Int, r = some (.inl z) ∧ (-4) ≤ z ∧ z ≤ 0 ∧ (Iₚ 86 2 + Iₚ 86 4 = 1) ∧ (z < 0 ∨ gc_TC (Iₚ (86 + 1 + 2 * Int.toNat (Iₚ 86 2))) (Iₚ 86 1))))) htb rfl (Nat.le_of_ble_eq_true rfl) ?_
  refine gv_run 1 true hD (pcₚ := 1) (lvₚ := [(0, .inr (.inr (some 0))), (1, .inl a1)]) (stₚ := [.inr (.inr (some 0))]) (hₚ := gc_h sh I J A) (C := (True ∧ True)) rfl ⟨trivial, trivial⟩ ?_
  refine gv_get hD rfl rfl S_0 ⟨by decide, (gz_sh B_0)⟩ (gc_hA S_0 rfl A_0_12) ?_
  show gv_X _ _ (4, [(0, .inr (.inr (some 0))), (1, .inl a1)], [.inr (.inr (some 124))], sh, gc_h sh I J A)
  refine gv_run 1 true hD (pcₚ := 5) (lvₚ := [(0, .inr (.inr (some 0))), (1, .inl a1)]) (stₚ := [.inl a1, .inr (.inr (some 124))]) (hₚ := gc_h sh I J A) (C := (True ∧ True)) rfl ⟨trivial, trivial⟩ ?_
  have f4 := gz_hi ((gc_b_68 hI (gz_sh R_124) (Int.toNat a1)))
  refine gv_iald hD rfl S_124 rfl ⟨by decide, (gz_sh B_124)⟩ ⟨by (/-0-/first | omega | (simp only [gz_hd] at *; omega)), by (/-1-/first | omega | (simp only [gz_hd] at *; omega))⟩ (gc_iI S_124 rfl) ?_
  show gv_X _ _ (6, [(0, .inr (.inr (some 0))), (1, .inl a1)], [.inl (I 124 (Int.toNat a1))], sh, gc_h sh I J A)
  refine gv_if_ne (t := 12) hD rfl rfl ⟨by (/-2-/first | (have o1 := gz_sh f4; omega) | (simp only [gz_hd] at *; omega)), by (/-3-/first | (have o1 := gz_sh f4; omega) | (simp only [gz_hd] at *; omega))⟩ (fun c5 => ?_) (fun c5 => ?_)
  · show gv_X _ _ (12, [(0, .inr (.inr (some 0))), (1, .inl a1)], [], sh, gc_h sh I J A)
    refine gv_run 1 true hD (pcₚ := 13) (lvₚ := [(0, .inr (.inr (some 0))), (1, .inl a1)]) (stₚ := [.inr (.inr (some 0))]) (hₚ := gc_h sh I J A) (C := (True ∧ True)) rfl ⟨trivial, trivial⟩ ?_
    refine gv_get hD rfl rfl S_0 ⟨by decide, (gz_sh B_0)⟩ (gc_hA S_0 rfl A_0_9) ?_
    show gv_X _ _ (16, [(0, .inr (.inr (some 0))), (1, .inl a1)], [.inr (.inr (some 86))], sh, gc_h sh I J A)
    refine gv_run 1 true hD (pcₚ := 17) (lvₚ := [(0, .inr (.inr (some 0))), (1, .inl a1)]) (stₚ := [.inr (.inr (some 0)), .inr (.inr (some 86))]) (hₚ := gc_h sh I J A) (C := (True ∧ True)) rfl ⟨trivial, trivial⟩ ?_
    refine gv_get hD rfl rfl S_0 ⟨by decide, (gz_sh B_0)⟩ (gc_hA S_0 rfl A_0_11) ?_
    show gv_X _ _ (20, [(0, .inr (.inr (some 0))), (1, .inl a1)], [.inr (.inr (some 114)), .inr (.inr (some 86))], sh, gc_h sh I J A)
    refine gv_run 1 true hD (pcₚ := 21) (lvₚ := [(0, .inr (.inr (some 0))), (1, .inl a1)]) (stₚ := [.inl a1, .inr (.inr (some 114)), .inr (.inr (some 86))]) (hₚ := gc_h sh I J A) (C := (True ∧ True)) rfl ⟨trivial, trivial⟩ ?_
    refine gv_aald hD rfl S_114 ⟨by decide, by decide⟩ ⟨by decide, (gz_sh B_114)⟩ ⟨by (/-4-/first | omega | (simp only [gz_hd] at *; omega)), by (/-5-/first | omega | (simp only [gz_hd] at *; omega))⟩ ((gc_aA S_114 rfl).trans x0) ?_
    show gv_X _ _ (22, [(0, .inr (.inr (some 0))), (1, .inl a1)], [.inr (.inr (some u)), .inr (.inr (some 86))], sh, gc_h sh I J A)
    refine gv_run 1 true hD (pcₚ := 23) (lvₚ := [(0, .inr (.inr (some 0))), (1, .inl a1)]) (stₚ := [.inr (.inr (some 0)), .inr (.inr (some u)), .inr (.inr (some 86))]) (hₚ := gc_h sh I J A) (C := (True ∧ True)) rfl ⟨trivial, trivial⟩ ?_
    refine gv_get hD rfl rfl S_0 ⟨by decide, (gz_sh B_0)⟩ (gc_hA S_0 rfl A_0_12) ?_
    show gv_X _ _ (26, [(0, .inr (.inr (some 0))), (1, .inl a1)], [.inr (.inr (some 124)), .inr (.inr (some u)), .inr (.inr (some 86))], sh, gc_h sh I J A)
    refine gv_run 1 true hD (pcₚ := 27) (lvₚ := [(0, .inr (.inr (some 0))), (1, .inl a1)]) (stₚ := [.inl a1, .inr (.inr (some 124)), .inr (.inr (some u)), .inr (.inr (some 86))]) (hₚ := gc_h sh I J A) (C := (True ∧ True)) rfl ⟨trivial, trivial⟩ ?_
    refine gv_iald hD rfl S_124 rfl ⟨by decide, (gz_sh B_124)⟩ ⟨by (/-6-/first | omega | (simp only [gz_hd] at *; omega)), by (/-7-/first | omega | (simp only [gz_hd] at *; omega))⟩ (gc_iI S_124 rfl) ?_
    show gv_X _ _ (28, [(0, .inr (.inr (some 0))), (1, .inl a1)], [.inl (I 124 (Int.toNat a1)), .inr (.inr (some u)), .inr (.inr (some 86))], sh, gc_h sh I J A)
    obtain ⟨r8, h8, E8, P8⟩ := d_X10_ponder_m (ws0 := ws0) (tb := tb) hws htb sh ro I J A hI  60 u ((I 124 (Int.toNat a1))) hb S_u R_u B_u (by decide)  ⟨by (/-8-/first | (have o1 := gz_sh f4; omega) | (simp only [gz_hd] at *; omega)), by (/-9-/first | (have o1 := gz_sh f4; omega) | (simp only [gz_hd] at *; omega))⟩ (by (/-10-/first | omega | (simp only [gz_hd] at *; omega))) (x3.resolve_left (by (/-11-/first | omega | (simp only [gz_hd] at *; omega)))) (by (/-12-/first | (have o1 := gz_sh f4; omega) | (simp only [gz_hd] at *; omega))) (by (/-13-/first | omega | (simp only [gz_hd] at *; omega))) (by (/-14-/first | (and_intros; (omega); (have o1 := gz_sh f4; omega)) | (simp only [gz_hd] at *; omega))) (fun i hi h9 => (x4 (Int.toNat (I u i)) (by have h8 := (show 0 ≤ I u i ∧ I u i ≤ 95 from gc_in2 hI R_u rfl rfl rfl); (/-15-/first | omega | (simp only [gz_hd] at *; omega))) h9).2) 
    obtain ⟨I9, J10, rfl, hI9, g8, k8, ⟨z8, rfl, q8⟩⟩ := P8
    replace q8 := gz_hi q8
    have FI9 := gc_frc (W := fun q j => q = 87 ∨ q = 89 ∨ (q = 86 ∧ j = 1) ∨ (q = 86 ∧ j = 2) ∨ (q = 86 ∧ j = 3) ∨ (q = 86 ∧ j = 4) ∨ (q = 86 ∧ j = 5) ∨ q = 91 ∨ q = 22 ∨ q = 92 ∨ q = 93) (V := fun q j => q = 87 ∨ q = 89 ∨ (q = 86 ∧ j = 1) ∨ (q = 86 ∧ j = 2) ∨ (q = 86 ∧ j = 3) ∨ (q = 86 ∧ j = 4) ∨ (q = 86 ∧ j = 5) ∨ q = 91 ∨ q = 22 ∨ q = 92 ∨ q = 93) FI (fun q j h => (h.elim (fun h => (Or.inl h)) (fun h => (h.elim (fun h => (Or.inr (Or.inl h))) (fun h => (h.elim (fun h => (Or.inr (Or.inr (Or.inl h)))) (fun h => (h.elim (fun h => (Or.inr (Or.inr (Or.inr (Or.inl h))))) (fun h => (h.elim (fun h => (Or.inr (Or.inr (Or.inr (Or.inr (Or.inl h)))))) (fun h => (h.elim (fun h => (Or.inr (Or.inr (Or.inr (Or.inr (Or.inr (Or.inl h))))))) (fun h => (h.elim (fun h => (Or.inr (Or.inr (Or.inr (Or.inr (Or.inr (Or.inr (Or.inl h)))))))) (fun h => (h.elim (fun h => (Or.inr (Or.inr (Or.inr (Or.inr (Or.inr (Or.inr (Or.inr (Or.inl h))))))))) (fun h => (h.elim (fun h => (Or.inr (Or.inr (Or.inr (Or.inr (Or.inr (Or.inr (Or.inr (Or.inr (Or.inl h)))))))))) (fun h => (h.elim (fun h => (Or.inr (Or.inr (Or.inr (Or.inr (Or.inr (Or.inr (Or.inr (Or.inr (Or.inr (Or.inl h))))))))))) (fun h => (Or.inr (Or.inr (Or.inr (Or.inr (Or.inr (Or.inr (Or.inr (Or.inr (Or.inr (Or.inr h))))))))))))))))))))))))))))))) g8
    have FJ10 := gc_frc (W := fun q j => q = 88 ∨ q = 90) (V := fun q j => q = 88 ∨ q = 90) FJ (fun q j h => (h.elim (fun h => (Or.inl h)) (fun h => (Or.inr h)))) k8
    refine gv_callV hD rfl (As := [.inr (.inr (some u)), .inl (I 124 (Int.toNat a1))]) (st := []) rfl (gz_sh B_86) S_86 rfl (gc_lV12 hws rfl) (Nat.le_of_ble_eq_true rfl) (gz_Ev_mono (d := 5) (by decide) E8) ?_
    show gv_X _ _ (31, [(0, .inr (.inr (some 0))), (1, .inl a1)], [.inl z8], sh, gc_h sh I9 J10 A)
    exact gv_iret hD rfl ⟨I9, J10, rfl, hI9, FI9, FJ10, ⟨_, rfl, by (/-16-/first | (have o1 := gz_sh q8; omega) | (simp only [gz_hd] at *; omega)), by (/-17-/first | (have o1 := gz_sh q8; omega) | (simp only [gz_hd] at *; omega)), by (/-18-/first | (have o1 := gz_sh q8; omega) | (simp only [gz_hd] at *; omega)), (gz_sh q8).2.2.2⟩⟩
  · show gv_X _ _ (9, [(0, .inr (.inr (some 0))), (1, .inl a1)], [], sh, gc_h sh I J A)
    refine gv_run 1 true hD (pcₚ := 11) (lvₚ := [(0, .inr (.inr (some 0))), (1, .inl a1)]) (stₚ := [.inl (-4)]) (hₚ := gc_h sh I J A) (C := (True ∧ True)) rfl ⟨trivial, trivial⟩ ?_
    exact gv_iret hD rfl ⟨I, J, rfl, hI, FI, FJ, ⟨_, rfl, by (/-19-/first | omega | (simp only [gz_hd] at *; omega)), by (/-20-/first | omega | (simp only [gz_hd] at *; omega)), by (/-21-/first | omega | (simp only [gz_hd] at *; omega)), (Or.inl (by (/-22-/first | omega | (simp only [gz_hd] at *; omega))))⟩⟩
