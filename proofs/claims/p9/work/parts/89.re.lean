def gc_le (I : gr_I) (e : Int) : Prop := 0 ≤ e ∧ e < 48000 ∧ e / 16 < I 48 3 ∧ e % 16 < I 67 (Int.toNat (e / 16))
theorem gc_le_fr {I Iₚ : gr_I} {e : Int} (h : gc_le I e) (h3 : Iₚ 48 3 = I 48 3) (r : ∀ k, Iₚ 67 k = I 67 k) : gc_le Iₚ e := by
  unfold gc_le at h ⊢
  rw [h3, r]
  exact h
def gc_TH (o : Int) (I : gr_I) : Prop := ∀ i : Nat, ¬ (i : Int) = o → (i : Int) < I 61 15 → gc_le I (I 72 i)
theorem gc_TH_fr {o : Int} {I Iₚ : gr_I} (h : gc_TH o I) (h5 : Iₚ 61 15 = I 61 15) (h3 : Iₚ 48 3 = I 48 3) (r7 : ∀ k, Iₚ 67 k = I 67 k) (r2 : ∀ k, Iₚ 72 k = I 72 k) : gc_TH o Iₚ := fun i h1 h2 => by rw [r2]; exact gc_le_fr (h i h1 (by omega)) h3 r7
theorem gc_TH_any {o : Int} {I : gr_I} (h : gc_TH (-1) I) : gc_TH o I := fun i _ h2 => h i (by omega) h2
theorem gc_TH_0 {o : Int} {I : gr_I} (h : I 61 15 ≤ 0) : gc_TH o I := fun i _ h2 => by omega
theorem gc_TH_gr {I Iₚ : gr_I} {o : Int} (h : gc_TH (-1) I) (p : ∀ q j, ¬ (q = 61 ∧ j = 15) → Iₚ q j = I q j) (e : Iₚ 61 15 = I 61 15 + 1) (ho : o = I 61 15) : gc_TH o Iₚ := fun i h1 h2 => by
  rw [p 72 i (fun h9 => absurd h9.1 (by decide))]
  exact gc_le_fr (h i (by omega) (by omega)) (p 48 3 (fun h9 => absurd h9.1 (by decide))) (fun k => p 67 k (fun h9 => absurd h9.1 (by decide)))
theorem gc_TH_mv {o : Int} {I Iₚ : gr_I} (h : gc_TH o I) (h5 : Iₚ 61 15 = I 61 15) (h3 : Iₚ 48 3 = I 48 3) (r7 : ∀ k, Iₚ 67 k = I 67 k) (r2 : ∀ k, ¬ k = Int.toNat o → Iₚ 72 k = I 72 k) (z : Iₚ 72 (Int.toNat o) = I 72 (Int.toNat (o - 1))) (ho : 1 ≤ o ∧ o ≤ I 61 15) : gc_TH (o + (-1)) Iₚ := fun i h1 h2 => by
  by_cases e : i = Int.toNat o
  · rw [e, z]
    exact gc_le_fr (h (Int.toNat (o - 1)) (by omega) (by omega)) h3 r7
  · rw [r2 i e]
    exact gc_le_fr (h i (by omega) (by omega)) h3 r7
theorem gc_TH_pt {o : Int} {I Iₚ : gr_I} (h : gc_TH o I) (h5 : Iₚ 61 15 = I 61 15) (h3 : Iₚ 48 3 = I 48 3) (r7 : ∀ k, Iₚ 67 k = I 67 k) (r2 : ∀ k, ¬ k = Int.toNat o → Iₚ 72 k = I 72 k) (h0 : 0 ≤ o) (z : gc_le Iₚ (Iₚ 72 (Int.toNat o))) : gc_TH (-1) Iₚ := fun i h1 h2 => by
  by_cases e : i = Int.toNat o
  · rw [e]; exact z
  · rw [r2 i e]
    exact gc_le_fr (h i (by omega) (by omega)) h3 r7
set_option maxHeartbeats 8000000 in
set_option maxRecDepth 100000 in
theorem d_X5_putTop_w {ws0 : List Cond} {tb : String → gz_T} (hws : gc_Ws ws0) (htb : gc_tbs tb) (sh : gz_Sh) (ro : Nat → Nat) (I : gr_I) (J : gr_J) (A : gc_A) (hI : gc_Inv ro I) (a1 : Int) (hb : gc_Base sh ro A) (ha1 : 0 ≤ a1 ∧ a1 ≤ 47999) (x0 : gc_TH (-1) I) (x1 : gc_le I a1) : ∃ r hₚ, gz_Ev ws0 tb 2 (yX5_putTop, cX5_putTop, 4, none) [.inr (.inr (some 61)), .inl a1] sh (gc_h sh I J A) r sh hₚ 0 0 ∧ (∃ (Iₚ : gr_I) (Jₚ : gr_J), hₚ = gc_h sh Iₚ Jₚ A ∧ gc_Inv ro Iₚ ∧ (∀ q j : Nat, ((q = 61 ∧ j = 15) ∨ q = 71 ∨ q = 72) ∨ Iₚ q j = I q j) ∧ (∀ q j : Nat, (False) ∨ Jₚ q j = J q j) ∧ r = none ∧ (gc_TH (-1) Iₚ)) := by
  have FI : ∀ q j : Nat, ((q = 61 ∧ j = 15) ∨ q = 71 ∨ q = 72) ∨ I q j = I q j := fun _ _ => Or.inr rfl
  have FJ : ∀ q j : Nat, (False) ∨ J q j = J q j := fun _ _ => Or.inr rfl
  have A_61_12 : A 61 12 = some 68 := gc_bA_61_12 hb
  have A_61_16 : A 61 16 = some 71 := gc_bA_61_16 hb
  have A_61_17 : A 61 17 = some 72 := gc_bA_61_17 hb
  have B_61 := gz_hi (show 61 < 1000000 from by decide)
  have B_68 := gz_hi (show 68 < 1000000 from by decide)
  have B_71 := gz_hi (show 71 < 1000000 from by decide)
  have B_72 := gz_hi (show 72 < 1000000 from by decide)
  have R_61 := gz_hi (show ro 61 = 72 from gc_bR_61 hb)
  have R_68 := gz_hi (show ro 68 = 0 from gc_bR_68 hb)
  have R_71 := gz_hi (show ro 71 = 0 from gc_bR_71 hb)
  have R_72 := gz_hi (show ro 72 = 54 from gc_bR_72 hb)
  have S_61 : sh[61]? = some (false, 5, 19) := gc_bS_61 hb
  have S_68 : sh[68]? = some (true, 1, 48000) := gc_bS_68 hb
  have S_71 : sh[71]? = some (true, 1, 16) := gc_bS_71 hb
  have S_72 : sh[72]? = some (true, 1, 16) := gc_bS_72 hb
  have hD : gv_D (gc_E5 ws0 tb 1 (yX5_putTop, cX5_putTop, 4, none) kX5_putTop) := gq_of oX5_putTop
  refine gc_ev5 (d := 1) (l := kX5_putTop) (Po := fun r hₚ => (∃ (Iₚ : gr_I) (Jₚ : gr_J), hₚ = gc_h sh Iₚ Jₚ A ∧ gc_Inv ro Iₚ ∧ (∀ q j : Nat, ((q = 61 ∧ j = 15) ∨ q = 71 ∨ q = 72) ∨ Iₚ q j = I q j) ∧ (∀ q j : Nat, (False) ∨ Jₚ q j = J q j) ∧ r = none ∧ (gc_TH (-1) Iₚ))) htb rfl (Nat.le_of_ble_eq_true rfl) ?_
  have f1 := gz_hi ((gc_b_72_15 hI (gz_sh R_61)))
  have L5 : ∀ (n9 : Nat) (v2_2 : Int), (v2_2 - (-1)).toNat < n9 → ((0 ≤ a1 ∧ a1 ≤ 47999) ∧ (0 ≤ v2_2 ∧ v2_2 ≤ 16) ∧ (v2_2 ≤ I 61 15)) → gv_X (gc_E5 ws0 tb 1 (yX5_putTop, cX5_putTop, 4, none) kX5_putTop) (gv_Q cX5_putTop none sh (fun r hₚ => (∃ (Iₚ : gr_I) (Jₚ : gr_J), hₚ = gc_h sh Iₚ Jₚ A ∧ gc_Inv ro Iₚ ∧ (∀ q j : Nat, ((q = 61 ∧ j = 15) ∨ q = 71 ∨ q = 72) ∨ Iₚ q j = I q j) ∧ (∀ q j : Nat, (False) ∨ Jₚ q j = J q j) ∧ r = none ∧ (gc_TH (-1) Iₚ)))) (5, [(0, .inr (.inr (some 61))), (1, .inl a1), (2, .inl v2_2)], [], sh, gc_h sh I J A) := by
    intro n9
    induction n9 with
    | zero => intro v2_2 hn; (/-0-/first | omega | (simp only [gz_hd] at *; omega))
    | succ n9 ih5 =>
      intro v2_2 hn m_2
      obtain ⟨ha1_2, hv2_2, e0_2⟩ := gz_h3 m_2
      have L31 : ((0 ≤ a1 ∧ a1 ≤ 47999) ∧ (0 ≤ v2_2 ∧ v2_2 ≤ 16) ∧ (v2_2 ≤ I 61 15)) → gv_X (gc_E5 ws0 tb 1 (yX5_putTop, cX5_putTop, 4, none) kX5_putTop) (gv_Q cX5_putTop none sh (fun r hₚ => (∃ (Iₚ : gr_I) (Jₚ : gr_J), hₚ = gc_h sh Iₚ Jₚ A ∧ gc_Inv ro Iₚ ∧ (∀ q j : Nat, ((q = 61 ∧ j = 15) ∨ q = 71 ∨ q = 72) ∨ Iₚ q j = I q j) ∧ (∀ q j : Nat, (False) ∨ Jₚ q j = J q j) ∧ r = none ∧ (gc_TH (-1) Iₚ)))) (31, [(0, .inr (.inr (some 61))), (1, .inl a1), (2, .inl v2_2)], [], sh, gc_h sh I J A) := by
        intro m_4
        obtain ⟨ha1_4, hv2_2_4, e0_4⟩ := gz_h3 m_4
        have L57 : ∀ (I6 : gr_I) (J7 : gr_J) , gc_Inv ro I6 → (∀ q j : Nat, ((q = 61 ∧ j = 15) ∨ q = 71 ∨ q = 72) ∨ I6 q j = I q j) → (∀ q j : Nat, (False) ∨ J7 q j = J q j) → ((0 ≤ a1 ∧ a1 ≤ 47999) ∧ (0 ≤ v2_2 ∧ v2_2 ≤ 15) ∧ (v2_2 + 1 ≤ I6 61 15) ∧ (v2_2 ≤ 15)) → (gc_TH (I6 61 15 - 1) I6) → gv_X (gc_E5 ws0 tb 1 (yX5_putTop, cX5_putTop, 4, none) kX5_putTop) (gv_Q cX5_putTop none sh (fun r hₚ => (∃ (Iₚ : gr_I) (Jₚ : gr_J), hₚ = gc_h sh Iₚ Jₚ A ∧ gc_Inv ro Iₚ ∧ (∀ q j : Nat, ((q = 61 ∧ j = 15) ∨ q = 71 ∨ q = 72) ∨ Iₚ q j = I q j) ∧ (∀ q j : Nat, (False) ∨ Jₚ q j = J q j) ∧ r = none ∧ (gc_TH (-1) Iₚ)))) (57, [(0, .inr (.inr (some 61))), (1, .inl a1), (2, .inl v2_2)], [], sh, gc_h sh I6 J7 A) := by
          intro I6 J7 hI6 FI6 FJ7 m_8 e0_8
          clear ha1_4 hv2_2_4 e0_4 ha1_2 hv2_2 e0_2
          obtain ⟨ha1_8, hv2_2_8, e1_8, e2_8⟩ := gz_h4 m_8
          have f9 := gz_hi ((gc_b_72_15 hI6 (gz_sh R_61)))
          have L64 : ∀ (n9 : Nat) (I10 : gr_I) (J11 : gr_J) (v3_12 : Int), (v3_12 - (-1)).toNat < n9 → gc_Inv ro I10 → (∀ q j : Nat, ((q = 61 ∧ j = 15) ∨ q = 71 ∨ q = 72) ∨ I10 q j = I q j) → (∀ q j : Nat, (False) ∨ J11 q j = J q j) → ((0 ≤ a1 ∧ a1 ≤ 47999) ∧ (0 ≤ v2_2 ∧ v2_2 ≤ 15) ∧ (0 ≤ v3_12 ∧ v3_12 ≤ 15) ∧ (v2_2 ≤ 15) ∧ (v2_2 ≤ v3_12) ∧ (v3_12 < I10 61 15)) → (gc_TH v3_12 I10) → gv_X (gc_E5 ws0 tb 1 (yX5_putTop, cX5_putTop, 4, none) kX5_putTop) (gv_Q cX5_putTop none sh (fun r hₚ => (∃ (Iₚ : gr_I) (Jₚ : gr_J), hₚ = gc_h sh Iₚ Jₚ A ∧ gc_Inv ro Iₚ ∧ (∀ q j : Nat, ((q = 61 ∧ j = 15) ∨ q = 71 ∨ q = 72) ∨ Iₚ q j = I q j) ∧ (∀ q j : Nat, (False) ∨ Jₚ q j = J q j) ∧ r = none ∧ (gc_TH (-1) Iₚ)))) (64, [(0, .inr (.inr (some 61))), (1, .inl a1), (2, .inl v2_2), (3, .inl v3_12)], [], sh, gc_h sh I10 J11 A) := by
            intro n9
            induction n9 with
            | zero => intro I10 J11 v3_12 hn; (/-1-/first | omega | (simp only [gz_hd] at *; omega))
            | succ n9 ih64 =>
              intro I10 J11 v3_12 hn hI10 FI10 FJ11 m_12 e0_12
              clear ha1_8 hv2_2_8 e1_8 e2_8 f9
              obtain ⟨ha1_12, hv2_2_12, hv3_12, e1_12, e2_12, e3_12⟩ := gz_h6 m_12
              refine gv_run 2 true hD (pcₚ := 66) (lvₚ := [(0, .inr (.inr (some 61))), (1, .inl a1), (2, .inl v2_2), (3, .inl v3_12)]) (stₚ := [.inl v2_2, .inl v3_12]) (hₚ := gc_h sh I10 J11 A) (C := ((True ∧ True) ∧ True)) rfl ⟨⟨trivial, trivial⟩, trivial⟩ ?_
              refine gv_icmp_le (t := 103) hD rfl rfl ⟨⟨by (/-2-/first | (have o1 := gz_sh hv3_12; omega) | (simp only [gz_hd] at *; omega)), by (/-3-/first | (have o1 := gz_sh hv3_12; omega) | (simp only [gz_hd] at *; omega))⟩, ⟨by (/-4-/first | (have o1 := gz_sh hv2_2_12; omega) | (simp only [gz_hd] at *; omega)), by (/-5-/first | (have o1 := gz_sh hv2_2_12; omega) | (simp only [gz_hd] at *; omega))⟩⟩ (fun c14 => ?_) (fun c14 => ?_)
              · show gv_X _ _ (103, [(0, .inr (.inr (some 61))), (1, .inl a1), (2, .inl v2_2), (3, .inl v3_12)], [], sh, gc_h sh I10 J11 A)
                refine gv_run 1 true hD (pcₚ := 104) (lvₚ := [(0, .inr (.inr (some 61))), (1, .inl a1), (2, .inl v2_2), (3, .inl v3_12)]) (stₚ := [.inr (.inr (some 61))]) (hₚ := gc_h sh I10 J11 A) (C := (True ∧ True)) rfl ⟨trivial, trivial⟩ ?_
                refine gv_get hD rfl rfl S_61 ⟨by decide, (gz_sh B_61)⟩ (gc_hA S_61 rfl A_61_16) ?_
                show gv_X _ _ (107, [(0, .inr (.inr (some 61))), (1, .inl a1), (2, .inl v2_2), (3, .inl v3_12)], [.inr (.inr (some 71))], sh, gc_h sh I10 J11 A)
                refine gv_run 2 true hD (pcₚ := 109) (lvₚ := [(0, .inr (.inr (some 61))), (1, .inl a1), (2, .inl v2_2), (3, .inl v3_12)]) (stₚ := [.inr (.inr (some 61)), .inl v2_2, .inr (.inr (some 71))]) (hₚ := gc_h sh I10 J11 A) (C := ((True ∧ True) ∧ True)) rfl ⟨⟨trivial, trivial⟩, trivial⟩ ?_
                refine gv_get hD rfl rfl S_61 ⟨by decide, (gz_sh B_61)⟩ (gc_hA S_61 rfl A_61_12) ?_
                show gv_X _ _ (112, [(0, .inr (.inr (some 61))), (1, .inl a1), (2, .inl v2_2), (3, .inl v3_12)], [.inr (.inr (some 68)), .inl v2_2, .inr (.inr (some 71))], sh, gc_h sh I10 J11 A)
                refine gv_run 1 true hD (pcₚ := 113) (lvₚ := [(0, .inr (.inr (some 61))), (1, .inl a1), (2, .inl v2_2), (3, .inl v3_12)]) (stₚ := [.inl a1, .inr (.inr (some 68)), .inl v2_2, .inr (.inr (some 71))]) (hₚ := gc_h sh I10 J11 A) (C := (True ∧ True)) rfl ⟨trivial, trivial⟩ ?_
                have f15 := gz_hi ((gc_b_0 hI10 (gz_sh R_68) (Int.toNat a1)))
                refine gv_iald hD rfl S_68 rfl ⟨by decide, (gz_sh B_68)⟩ ⟨by (/-6-/first | omega | (simp only [gz_hd] at *; omega)), by (/-7-/first | omega | (simp only [gz_hd] at *; omega))⟩ (gc_iI S_68 rfl) ?_
                show gv_X _ _ (114, [(0, .inr (.inr (some 61))), (1, .inl a1), (2, .inl v2_2), (3, .inl v3_12)], [.inl (I10 68 (Int.toNat a1)), .inl v2_2, .inr (.inr (some 71))], sh, gc_h sh I10 J11 A)
                refine gv_iast hD rfl S_71 ⟨by decide, (gz_sh B_71)⟩ ⟨by (/-8-/first | (have o1 := gz_sh hv2_2_12; omega) | (simp only [gz_hd] at *; omega)), by (/-9-/first | (have o1 := gz_sh hv2_2_12; omega) | (simp only [gz_hd] at *; omega))⟩ ?_
                refine gc_st hI10 S_71 rfl (gz_sh R_71) (lo := (-2147483648)) (hi := 2147483647) rfl rfl (by (/-10-/first | (have o1 := gz_sh f15; omega) | (simp only [gz_hd] at *; omega))) (by (/-11-/first | (have o1 := gz_sh f15; omega) | (simp only [gz_hd] at *; omega))) (fun I16 hI16 q17 p17 => ?_)
                have FI16 := gc_frs (W := fun q j => (q = 61 ∧ j = 15) ∨ q = 71 ∨ q = 72) FI10 (Or.inr (Or.inl rfl)) p17
                show gv_X _ _ (115, [(0, .inr (.inr (some 61))), (1, .inl a1), (2, .inl v2_2), (3, .inl v3_12)], [], sh, gc_h sh I16 J11 A)
                refine gv_run 1 true hD (pcₚ := 116) (lvₚ := [(0, .inr (.inr (some 61))), (1, .inl a1), (2, .inl v2_2), (3, .inl v3_12)]) (stₚ := [.inr (.inr (some 61))]) (hₚ := gc_h sh I16 J11 A) (C := (True ∧ True)) rfl ⟨trivial, trivial⟩ ?_
                refine gv_get hD rfl rfl S_61 ⟨by decide, (gz_sh B_61)⟩ (gc_hA S_61 rfl A_61_17) ?_
                show gv_X _ _ (119, [(0, .inr (.inr (some 61))), (1, .inl a1), (2, .inl v2_2), (3, .inl v3_12)], [.inr (.inr (some 72))], sh, gc_h sh I16 J11 A)
                refine gv_run 2 true hD (pcₚ := 121) (lvₚ := [(0, .inr (.inr (some 61))), (1, .inl a1), (2, .inl v2_2), (3, .inl v3_12)]) (stₚ := [.inl a1, .inl v2_2, .inr (.inr (some 72))]) (hₚ := gc_h sh I16 J11 A) (C := ((True ∧ True) ∧ True)) rfl ⟨⟨trivial, trivial⟩, trivial⟩ ?_
                refine gv_iast hD rfl S_72 ⟨by decide, (gz_sh B_72)⟩ ⟨by (/-12-/first | (have o1 := gz_sh hv2_2_12; omega) | (simp only [gz_hd] at *; omega)), by (/-13-/first | (have o1 := gz_sh hv2_2_12; omega) | (simp only [gz_hd] at *; omega))⟩ ?_
                refine gc_st hI16 S_72 rfl (gz_sh R_72) (lo := 0) (hi := 47999) rfl rfl (by (/-14-/first | omega | (simp only [gz_hd] at *; omega))) (by (/-15-/first | omega | (simp only [gz_hd] at *; omega))) (fun I19 hI19 q20 p20 => ?_)
                have FI19 := gc_frs (W := fun q j => (q = 61 ∧ j = 15) ∨ q = 71 ∨ q = 72) FI16 (Or.inr (Or.inr rfl)) p20
                show gv_X _ _ (122, [(0, .inr (.inr (some 61))), (1, .inl a1), (2, .inl v2_2), (3, .inl v3_12)], [], sh, gc_h sh I19 J11 A)
                exact gv_vret hD rfl ⟨I19, J11, rfl, hI19, FI19, FJ11, ⟨rfl, (gc_TH_pt (o := v2_2) (by rw [show v2_2 = v3_12 from by (/-16-/first | (have o1 := gz_sh e2_12; omega) | (simp only [gz_hd] at *; omega))]; exact e0_12) (((p20 61 15 (fun h => absurd h.1 (by (/-17-/first | omega | (simp only [gz_hd] at *; omega))))).trans (p17 61 15 (fun h => absurd h.1 (by (/-18-/first | omega | (simp only [gz_hd] at *; omega))))))) (((p20 48 3 (fun h => absurd h.1 (by (/-19-/first | omega | (simp only [gz_hd] at *; omega))))).trans (p17 48 3 (fun h => absurd h.1 (by (/-20-/first | omega | (simp only [gz_hd] at *; omega))))))) (fun k => ((p20 67 k (fun h => absurd h.1 (by (/-21-/first | omega | (simp only [gz_hd] at *; omega))))).trans (p17 67 k (fun h => absurd h.1 (by (/-22-/first | omega | (simp only [gz_hd] at *; omega))))))) (fun k hk => ((p20 72 k (fun h => by have := h.2; (/-23-/first | omega | (simp only [gz_hd] at *; omega)))).trans (p17 72 k (fun h => absurd h.1 (by (/-24-/first | omega | (simp only [gz_hd] at *; omega))))))) (by (/-25-/first | (have o1 := gz_sh hv2_2_12; omega) | (simp only [gz_hd] at *; omega))) (by rw [q20]; exact gc_le_fr x1 ((FI19 48 3).resolve_left (by (/-26-/first | omega | (simp only [gz_hd] at *; omega)))) (fun k => (FI19 67 k).resolve_left (by (/-27-/first | omega | (simp only [gz_hd] at *; omega))))))⟩⟩
              · show gv_X _ _ (69, [(0, .inr (.inr (some 61))), (1, .inl a1), (2, .inl v2_2), (3, .inl v3_12)], [], sh, gc_h sh I10 J11 A)
                refine gv_run 1 true hD (pcₚ := 70) (lvₚ := [(0, .inr (.inr (some 61))), (1, .inl a1), (2, .inl v2_2), (3, .inl v3_12)]) (stₚ := [.inr (.inr (some 61))]) (hₚ := gc_h sh I10 J11 A) (C := (True ∧ True)) rfl ⟨trivial, trivial⟩ ?_
                refine gv_get hD rfl rfl S_61 ⟨by decide, (gz_sh B_61)⟩ (gc_hA S_61 rfl A_61_16) ?_
                show gv_X _ _ (73, [(0, .inr (.inr (some 61))), (1, .inl a1), (2, .inl v2_2), (3, .inl v3_12)], [.inr (.inr (some 71))], sh, gc_h sh I10 J11 A)
                refine gv_run 2 true hD (pcₚ := 75) (lvₚ := [(0, .inr (.inr (some 61))), (1, .inl a1), (2, .inl v2_2), (3, .inl v3_12)]) (stₚ := [.inr (.inr (some 61)), .inl v3_12, .inr (.inr (some 71))]) (hₚ := gc_h sh I10 J11 A) (C := ((True ∧ True) ∧ True)) rfl ⟨⟨trivial, trivial⟩, trivial⟩ ?_
                refine gv_get hD rfl rfl S_61 ⟨by decide, (gz_sh B_61)⟩ (gc_hA S_61 rfl A_61_16) ?_
                show gv_X _ _ (78, [(0, .inr (.inr (some 61))), (1, .inl a1), (2, .inl v2_2), (3, .inl v3_12)], [.inr (.inr (some 71)), .inl v3_12, .inr (.inr (some 71))], sh, gc_h sh I10 J11 A)
                refine gv_run 3 true hD (pcₚ := 81) (lvₚ := [(0, .inr (.inr (some 61))), (1, .inl a1), (2, .inl v2_2), (3, .inl v3_12)]) (stₚ := [.inl (v3_12 - 1), .inr (.inr (some 71)), .inl v3_12, .inr (.inr (some 71))]) (hₚ := gc_h sh I10 J11 A) (C := (((True ∧ True) ∧ True) ∧ True)) rfl ⟨⟨⟨trivial, trivial⟩, trivial⟩, trivial⟩ ?_
                have f22 := gz_hi ((gc_b_0 hI10 (gz_sh R_71) (Int.toNat (v3_12 - 1))))
                refine gv_iald hD rfl S_71 rfl ⟨by decide, (gz_sh B_71)⟩ ⟨by (/-28-/first | (have o1 := gz_sh hv2_2_12; omega) | (simp only [gz_hd] at *; omega)), by (/-29-/first | (have o1 := gz_sh hv3_12; omega) | (simp only [gz_hd] at *; omega))⟩ (gc_iI S_71 rfl) ?_
                show gv_X _ _ (82, [(0, .inr (.inr (some 61))), (1, .inl a1), (2, .inl v2_2), (3, .inl v3_12)], [.inl (I10 71 (Int.toNat (v3_12 - 1))), .inl v3_12, .inr (.inr (some 71))], sh, gc_h sh I10 J11 A)
                refine gv_iast hD rfl S_71 ⟨by decide, (gz_sh B_71)⟩ ⟨by (/-30-/first | (have o1 := gz_sh hv3_12; omega) | (simp only [gz_hd] at *; omega)), by (/-31-/first | (have o1 := gz_sh hv3_12; omega) | (simp only [gz_hd] at *; omega))⟩ ?_
                refine gc_st hI10 S_71 rfl (gz_sh R_71) (lo := (-2147483648)) (hi := 2147483647) rfl rfl (by (/-32-/first | (have o1 := gz_sh f22; omega) | (simp only [gz_hd] at *; omega))) (by (/-33-/first | (have o1 := gz_sh f22; omega) | (simp only [gz_hd] at *; omega))) (fun I23 hI23 q24 p24 => ?_)
                have FI23 := gc_frs (W := fun q j => (q = 61 ∧ j = 15) ∨ q = 71 ∨ q = 72) FI10 (Or.inr (Or.inl rfl)) p24
                have t25 := gz_hi (p24 61 15 (fun h => absurd h.1 (by first | exact gz_ne rfl | decide)))
                show gv_X _ _ (83, [(0, .inr (.inr (some 61))), (1, .inl a1), (2, .inl v2_2), (3, .inl v3_12)], [], sh, gc_h sh I23 J11 A)
                refine gv_run 1 true hD (pcₚ := 84) (lvₚ := [(0, .inr (.inr (some 61))), (1, .inl a1), (2, .inl v2_2), (3, .inl v3_12)]) (stₚ := [.inr (.inr (some 61))]) (hₚ := gc_h sh I23 J11 A) (C := (True ∧ True)) rfl ⟨trivial, trivial⟩ ?_
                refine gv_get hD rfl rfl S_61 ⟨by decide, (gz_sh B_61)⟩ (gc_hA S_61 rfl A_61_17) ?_
                show gv_X _ _ (87, [(0, .inr (.inr (some 61))), (1, .inl a1), (2, .inl v2_2), (3, .inl v3_12)], [.inr (.inr (some 72))], sh, gc_h sh I23 J11 A)
                refine gv_run 2 true hD (pcₚ := 89) (lvₚ := [(0, .inr (.inr (some 61))), (1, .inl a1), (2, .inl v2_2), (3, .inl v3_12)]) (stₚ := [.inr (.inr (some 61)), .inl v3_12, .inr (.inr (some 72))]) (hₚ := gc_h sh I23 J11 A) (C := ((True ∧ True) ∧ True)) rfl ⟨⟨trivial, trivial⟩, trivial⟩ ?_
                refine gv_get hD rfl rfl S_61 ⟨by decide, (gz_sh B_61)⟩ (gc_hA S_61 rfl A_61_17) ?_
                show gv_X _ _ (92, [(0, .inr (.inr (some 61))), (1, .inl a1), (2, .inl v2_2), (3, .inl v3_12)], [.inr (.inr (some 72)), .inl v3_12, .inr (.inr (some 72))], sh, gc_h sh I23 J11 A)
                refine gv_run 3 true hD (pcₚ := 95) (lvₚ := [(0, .inr (.inr (some 61))), (1, .inl a1), (2, .inl v2_2), (3, .inl v3_12)]) (stₚ := [.inl (v3_12 - 1), .inr (.inr (some 72)), .inl v3_12, .inr (.inr (some 72))]) (hₚ := gc_h sh I23 J11 A) (C := (((True ∧ True) ∧ True) ∧ True)) rfl ⟨⟨⟨trivial, trivial⟩, trivial⟩, trivial⟩ ?_
                have f26 := gz_hi ((gc_b_54 hI23 (gz_sh R_72) (Int.toNat (v3_12 - 1))))
                refine gv_iald hD rfl S_72 rfl ⟨by decide, (gz_sh B_72)⟩ ⟨by (/-34-/first | (have o1 := gz_sh hv2_2_12; omega) | (simp only [gz_hd] at *; omega)), by (/-35-/first | (have o1 := gz_sh hv3_12; omega) | (simp only [gz_hd] at *; omega))⟩ (gc_iI S_72 rfl) ?_
                show gv_X _ _ (96, [(0, .inr (.inr (some 61))), (1, .inl a1), (2, .inl v2_2), (3, .inl v3_12)], [.inl (I23 72 (Int.toNat (v3_12 - 1))), .inl v3_12, .inr (.inr (some 72))], sh, gc_h sh I23 J11 A)
                refine gv_iast hD rfl S_72 ⟨by decide, (gz_sh B_72)⟩ ⟨by (/-36-/first | (have o1 := gz_sh hv3_12; omega) | (simp only [gz_hd] at *; omega)), by (/-37-/first | (have o1 := gz_sh hv3_12; omega) | (simp only [gz_hd] at *; omega))⟩ ?_
                refine gc_st hI23 S_72 rfl (gz_sh R_72) (lo := 0) (hi := 47999) rfl rfl (by (/-38-/first | (have o1 := gz_sh f26; omega) | (simp only [gz_hd] at *; omega))) (by (/-39-/first | (have o1 := gz_sh f26; omega) | (simp only [gz_hd] at *; omega))) (fun I27 hI27 q28 p28 => ?_)
                have FI27 := gc_frs (W := fun q j => (q = 61 ∧ j = 15) ∨ q = 71 ∨ q = 72) FI23 (Or.inr (Or.inr rfl)) p28
                have t29 := gz_hi (p28 61 15 (fun h => absurd h.1 (by first | exact gz_ne rfl | decide)))
                show gv_X _ _ (97, [(0, .inr (.inr (some 61))), (1, .inl a1), (2, .inl v2_2), (3, .inl v3_12)], [], sh, gc_h sh I27 J11 A)
                refine gv_run 2 true hD (pcₚ := 64) (lvₚ := [(3, .inl (v3_12 + (-1))), (0, .inr (.inr (some 61))), (1, .inl a1), (2, .inl v2_2)]) (stₚ := []) (hₚ := gc_h sh I27 J11 A) (C := ((True ∧ True) ∧ True)) rfl ⟨⟨trivial, trivial⟩, trivial⟩ ?_
                refine gv_pick [1, 2, 3, 0] rfl ?_
                exact ih64 I27 J11 ((v3_12 + (-1))) (by (/-40-/first | (have o1 := gz_sh hv2_2_12; have o2 := gz_sh hv3_12; omega) | (simp only [gz_hd] at *; omega))) hI27 FI27 FJ11 (by (/-41-/first | (and_intros; (omega); (omega); (have o1 := gz_sh hv2_2_12; omega); (have o1 := gz_sh hv2_2_12; omega); (have o1 := gz_sh hv2_2_12; omega); (have o1 := gz_sh hv3_12; omega); (have o1 := gz_sh hv2_2_12; omega); (omega); (have o1 := gz_sh e3_12; have o2 := gz_sh t25; have o3 := gz_sh t29; omega)) | (simp only [gz_hd] at *; omega))) (gc_TH_mv e0_12 (((p28 61 15 (fun h => absurd h.1 (by (/-42-/first | omega | (simp only [gz_hd] at *; omega))))).trans (p24 61 15 (fun h => absurd h.1 (by (/-43-/first | omega | (simp only [gz_hd] at *; omega))))))) (((p28 48 3 (fun h => absurd h.1 (by (/-44-/first | omega | (simp only [gz_hd] at *; omega))))).trans (p24 48 3 (fun h => absurd h.1 (by (/-45-/first | omega | (simp only [gz_hd] at *; omega))))))) (fun k => ((p28 67 k (fun h => absurd h.1 (by (/-46-/first | omega | (simp only [gz_hd] at *; omega))))).trans (p24 67 k (fun h => absurd h.1 (by (/-47-/first | omega | (simp only [gz_hd] at *; omega))))))) (fun k hk => ((p28 72 k (fun h => by have := h.2; (/-48-/first | (have o1 := gz_sh hv2_2_12; have o2 := gz_sh hv3_12; omega) | (simp only [gz_hd] at *; omega)))).trans (p24 72 k (fun h => absurd h.1 (by (/-49-/first | omega | (simp only [gz_hd] at *; omega))))))) (by have h9 := q28; rw [h9]; exact (p24 72 (Int.toNat (v3_12 - 1)) (fun h => absurd h.1 (by (/-50-/first | omega | (simp only [gz_hd] at *; omega)))))) (by (/-51-/first | (and_intros; (have o1 := gz_sh hv2_2_12; omega); (have o1 := gz_sh e3_12; omega)) | (simp only [gz_hd] at *; omega))))
          refine gv_run 1 true hD (pcₚ := 58) (lvₚ := [(0, .inr (.inr (some 61))), (1, .inl a1), (2, .inl v2_2)]) (stₚ := [.inr (.inr (some 61))]) (hₚ := gc_h sh I6 J7 A) (C := (True ∧ True)) rfl ⟨trivial, trivial⟩ ?_
          refine gv_get hD rfl rfl S_61 ⟨by decide, (gz_sh B_61)⟩ (gc_hI S_61 rfl) ?_
          show gv_X _ _ (61, [(0, .inr (.inr (some 61))), (1, .inl a1), (2, .inl v2_2)], [.inl (I6 61 15)], sh, gc_h sh I6 J7 A)
          refine gv_run 3 true hD (pcₚ := 64) (lvₚ := [(3, .inl ((I6 61 15) - 1)), (0, .inr (.inr (some 61))), (1, .inl a1), (2, .inl v2_2)]) (stₚ := []) (hₚ := gc_h sh I6 J7 A) (C := (((True ∧ True) ∧ True) ∧ True)) rfl ⟨⟨⟨trivial, trivial⟩, trivial⟩, trivial⟩ ?_
          refine gv_pick [1, 2, 3, 0] rfl ?_
          exact L64 _ I6 J7 (((I6 61 15) - 1)) (Nat.lt_succ_self _) hI6 FI6 FJ7 (by (/-52-/first | (and_intros; (omega); (omega); (have o1 := gz_sh hv2_2_8; omega); (have o1 := gz_sh hv2_2_8; omega); (have o1 := gz_sh e1_8; have o2 := gz_sh hv2_2_8; omega); (have o1 := gz_sh f9; omega); (have o1 := gz_sh hv2_2_8; omega); (have o1 := gz_sh e1_8; omega); (omega)) | (simp only [gz_hd] at *; omega))) e0_8
        refine gv_run 2 true hD (pcₚ := 34) (lvₚ := [(0, .inr (.inr (some 61))), (1, .inl a1), (2, .inl v2_2)]) (stₚ := [.inl 16, .inl v2_2]) (hₚ := gc_h sh I J A) (C := ((True ∧ True) ∧ True)) rfl ⟨⟨trivial, trivial⟩, trivial⟩ ?_
        refine gv_icmp_lt (t := 38) hD rfl rfl ⟨⟨by (/-53-/first | (have o1 := gz_sh hv2_2; omega) | (simp only [gz_hd] at *; omega)), by (/-54-/first | (have o1 := gz_sh hv2_2; omega) | (simp only [gz_hd] at *; omega))⟩, ⟨by (/-55-/first | omega | (simp only [gz_hd] at *; omega)), by (/-56-/first | omega | (simp only [gz_hd] at *; omega))⟩⟩ (fun c31 => ?_) (fun c31 => ?_)
        · show gv_X _ _ (38, [(0, .inr (.inr (some 61))), (1, .inl a1), (2, .inl v2_2)], [], sh, gc_h sh I J A)
          refine gv_run 1 true hD (pcₚ := 39) (lvₚ := [(0, .inr (.inr (some 61))), (1, .inl a1), (2, .inl v2_2)]) (stₚ := [.inr (.inr (some 61))]) (hₚ := gc_h sh I J A) (C := (True ∧ True)) rfl ⟨trivial, trivial⟩ ?_
          refine gv_get hD rfl rfl S_61 ⟨by decide, (gz_sh B_61)⟩ (gc_hI S_61 rfl) ?_
          show gv_X _ _ (42, [(0, .inr (.inr (some 61))), (1, .inl a1), (2, .inl v2_2)], [.inl (I 61 15)], sh, gc_h sh I J A)
          refine gv_run 1 true hD (pcₚ := 44) (lvₚ := [(0, .inr (.inr (some 61))), (1, .inl a1), (2, .inl v2_2)]) (stₚ := [.inl 16, .inl (I 61 15)]) (hₚ := gc_h sh I J A) (C := (True ∧ True)) rfl ⟨trivial, trivial⟩ ?_
          refine gv_icmp_ge (t := 57) hD rfl rfl ⟨⟨by (/-57-/first | (have o1 := gz_sh f1; omega) | (simp only [gz_hd] at *; omega)), by (/-58-/first | (have o1 := gz_sh f1; omega) | (simp only [gz_hd] at *; omega))⟩, ⟨by (/-59-/first | omega | (simp only [gz_hd] at *; omega)), by (/-60-/first | omega | (simp only [gz_hd] at *; omega))⟩⟩ (fun c33 => ?_) (fun c33 => ?_)
          · show gv_X _ _ (57, [(0, .inr (.inr (some 61))), (1, .inl a1), (2, .inl v2_2)], [], sh, gc_h sh I J A)
            exact L57 I J hI FI FJ (by (/-61-/first | (and_intros; (omega); (omega); (have o1 := gz_sh hv2_2; omega); (omega); (omega); (omega)) | (simp only [gz_hd] at *; omega))) (gc_TH_any x0)
          · show gv_X _ _ (47, [(0, .inr (.inr (some 61))), (1, .inl a1), (2, .inl v2_2)], [], sh, gc_h sh I J A)
            refine gv_run 2 true hD (pcₚ := 49) (lvₚ := [(0, .inr (.inr (some 61))), (1, .inl a1), (2, .inl v2_2)]) (stₚ := [.inr (.inr (some 61)), .inr (.inr (some 61))]) (hₚ := gc_h sh I J A) (C := ((True ∧ True) ∧ True)) rfl ⟨⟨trivial, trivial⟩, trivial⟩ ?_
            refine gv_get hD rfl rfl S_61 ⟨by decide, (gz_sh B_61)⟩ (gc_hI S_61 rfl) ?_
            show gv_X _ _ (52, [(0, .inr (.inr (some 61))), (1, .inl a1), (2, .inl v2_2)], [.inl (I 61 15), .inr (.inr (some 61))], sh, gc_h sh I J A)
            refine gv_run 2 true hD (pcₚ := 54) (lvₚ := [(0, .inr (.inr (some 61))), (1, .inl a1), (2, .inl v2_2)]) (stₚ := [.inl ((I 61 15) + 1), .inr (.inr (some 61))]) (hₚ := gc_h sh I J A) (C := ((True ∧ True) ∧ True)) rfl ⟨⟨trivial, trivial⟩, trivial⟩ ?_
            refine gv_put hD rfl rfl S_61 ⟨by decide, (gz_sh B_61)⟩ rfl trivial ?_
            refine gc_st (k := 15) hI S_61 rfl (gz_sh R_61) (lo := 0) (hi := 16) rfl rfl (by (/-62-/first | (have o1 := gz_sh f1; omega) | (simp only [gz_hd] at *; omega))) (by (/-63-/first | omega | (simp only [gz_hd] at *; omega))) (fun I35 hI35 q36 p36 => ?_)
            have FI35 := gc_frs (W := fun q j => (q = 61 ∧ j = 15) ∨ q = 71 ∨ q = 72) FI (Or.inl ⟨rfl, rfl⟩) p36
            show gv_X _ _ (57, [(0, .inr (.inr (some 61))), (1, .inl a1), (2, .inl v2_2)], [], sh, gc_h sh I35 J A)
            exact L57 I35 J hI35 FI35 FJ (by (/-64-/first | (and_intros; (omega); (omega); (have o1 := gz_sh hv2_2; omega); (omega); (have o1 := gz_sh e0_2; omega); (omega)) | (simp only [gz_hd] at *; omega))) (gc_TH_gr x0 p36 q36 (by (/-65-/first | omega | (simp only [gz_hd] at *; omega))))
        · show gv_X _ _ (37, [(0, .inr (.inr (some 61))), (1, .inl a1), (2, .inl v2_2)], [], sh, gc_h sh I J A)
          exact gv_vret hD rfl ⟨I, J, rfl, hI, FI, FJ, ⟨rfl, x0⟩⟩
      refine gv_run 1 true hD (pcₚ := 6) (lvₚ := [(0, .inr (.inr (some 61))), (1, .inl a1), (2, .inl v2_2)]) (stₚ := [.inl v2_2]) (hₚ := gc_h sh I J A) (C := (True ∧ True)) rfl ⟨trivial, trivial⟩ ?_
      refine gv_if_le (t := 31) hD rfl rfl ⟨by (/-66-/first | (have o1 := gz_sh hv2_2; omega) | (simp only [gz_hd] at *; omega)), by (/-67-/first | (have o1 := gz_sh hv2_2; omega) | (simp only [gz_hd] at *; omega))⟩ (fun c38 => ?_) (fun c38 => ?_)
      · show gv_X _ _ (31, [(0, .inr (.inr (some 61))), (1, .inl a1), (2, .inl v2_2)], [], sh, gc_h sh I J A)
        exact L31 (by (/-68-/first | (and_intros; (omega); (omega); (have o1 := gz_sh hv2_2; omega); (omega); (have o1 := gz_sh e0_2; omega)) | (simp only [gz_hd] at *; omega)))
      · show gv_X _ _ (9, [(0, .inr (.inr (some 61))), (1, .inl a1), (2, .inl v2_2)], [], sh, gc_h sh I J A)
        refine gv_run 3 true hD (pcₚ := 12) (lvₚ := [(0, .inr (.inr (some 61))), (1, .inl a1), (2, .inl v2_2)]) (stₚ := [.inr (.inr (some 61)), .inl a1, .inr (.inr (some 61))]) (hₚ := gc_h sh I J A) (C := (((True ∧ True) ∧ True) ∧ True)) rfl ⟨⟨⟨trivial, trivial⟩, trivial⟩, trivial⟩ ?_
        refine gv_get hD rfl rfl S_61 ⟨by decide, (gz_sh B_61)⟩ (gc_hA S_61 rfl A_61_17) ?_
        show gv_X _ _ (15, [(0, .inr (.inr (some 61))), (1, .inl a1), (2, .inl v2_2)], [.inr (.inr (some 72)), .inl a1, .inr (.inr (some 61))], sh, gc_h sh I J A)
        refine gv_run 3 true hD (pcₚ := 18) (lvₚ := [(0, .inr (.inr (some 61))), (1, .inl a1), (2, .inl v2_2)]) (stₚ := [.inl (v2_2 - 1), .inr (.inr (some 72)), .inl a1, .inr (.inr (some 61))]) (hₚ := gc_h sh I J A) (C := (((True ∧ True) ∧ True) ∧ True)) rfl ⟨⟨⟨trivial, trivial⟩, trivial⟩, trivial⟩ ?_
        have f39 := gz_hi ((gc_b_54 hI (gz_sh R_72) (Int.toNat (v2_2 - 1))))
        refine gv_iald hD rfl S_72 rfl ⟨by decide, (gz_sh B_72)⟩ ⟨by (/-69-/first | omega | (simp only [gz_hd] at *; omega)), by (/-70-/first | (have o1 := gz_sh hv2_2; omega) | (simp only [gz_hd] at *; omega))⟩ (gc_iI S_72 rfl) ?_
        show gv_X _ _ (19, [(0, .inr (.inr (some 61))), (1, .inl a1), (2, .inl v2_2)], [.inl (I 72 (Int.toNat (v2_2 - 1))), .inl a1, .inr (.inr (some 61))], sh, gc_h sh I J A)
        obtain ⟨r40, h40, E40, P40⟩ := d_X5_comesBefore (ws0 := ws0) (tb := tb) hws htb sh ro I J A hI  a1 ((I 72 (Int.toNat (v2_2 - 1)))) hb   ⟨by (/-71-/first | omega | (simp only [gz_hd] at *; omega)), by (/-72-/first | omega | (simp only [gz_hd] at *; omega))⟩ ⟨by (/-73-/first | (have o1 := gz_sh f39; omega) | (simp only [gz_hd] at *; omega)), by (/-74-/first | (have o1 := gz_sh f39; omega) | (simp only [gz_hd] at *; omega))⟩  
        obtain ⟨rfl, ⟨z40, rfl, q40⟩⟩ := P40
        replace q40 := gz_hi q40
        refine gv_callV hD rfl (As := [.inl a1, .inl (I 72 (Int.toNat (v2_2 - 1)))]) (st := []) rfl (gz_sh B_61) S_61 rfl (gc_lV5 hws rfl) (Nat.le_of_ble_eq_true rfl) (gz_Ev_mono (d := 1) (by decide) E40) ?_
        show gv_X _ _ (22, [(0, .inr (.inr (some 61))), (1, .inl a1), (2, .inl v2_2)], [.inl z40], sh, gc_h sh I J A)
        refine gv_if_eq (t := 31) hD rfl rfl ⟨by (/-75-/first | (have o1 := gz_sh q40; omega) | (simp only [gz_hd] at *; omega)), by (/-76-/first | (have o1 := gz_sh q40; omega) | (simp only [gz_hd] at *; omega))⟩ (fun c41 => ?_) (fun c41 => ?_)
        · show gv_X _ _ (31, [(0, .inr (.inr (some 61))), (1, .inl a1), (2, .inl v2_2)], [], sh, gc_h sh I J A)
          exact L31 (by (/-77-/first | (and_intros; (omega); (omega); (omega); (have o1 := gz_sh hv2_2; omega); (have o1 := gz_sh e0_2; omega)) | (simp only [gz_hd] at *; omega)))
        · show gv_X _ _ (25, [(0, .inr (.inr (some 61))), (1, .inl a1), (2, .inl v2_2)], [], sh, gc_h sh I J A)
          refine gv_run 2 true hD (pcₚ := 5) (lvₚ := [(2, .inl (v2_2 + (-1))), (0, .inr (.inr (some 61))), (1, .inl a1)]) (stₚ := []) (hₚ := gc_h sh I J A) (C := ((True ∧ True) ∧ True)) rfl ⟨⟨trivial, trivial⟩, trivial⟩ ?_
          refine gv_pick [1, 2, 0] rfl ?_
          exact ih5 ((v2_2 + (-1))) (by (/-78-/first | (have o1 := gz_sh e0_2; have o2 := gz_sh hv2_2; have o3 := gz_sh q40; omega) | (simp only [gz_hd] at *; omega))) (by (/-79-/first | (and_intros; (omega); (omega); (omega); (have o1 := gz_sh hv2_2; omega); (have o1 := gz_sh e0_2; omega)) | (simp only [gz_hd] at *; omega)))
  refine gv_run 1 true hD (pcₚ := 1) (lvₚ := [(0, .inr (.inr (some 61))), (1, .inl a1)]) (stₚ := [.inr (.inr (some 61))]) (hₚ := gc_h sh I J A) (C := (True ∧ True)) rfl ⟨trivial, trivial⟩ ?_
  refine gv_get hD rfl rfl S_61 ⟨by decide, (gz_sh B_61)⟩ (gc_hI S_61 rfl) ?_
  show gv_X _ _ (4, [(0, .inr (.inr (some 61))), (1, .inl a1)], [.inl (I 61 15)], sh, gc_h sh I J A)
  refine gv_run 1 true hD (pcₚ := 5) (lvₚ := [(2, .inl (I 61 15)), (0, .inr (.inr (some 61))), (1, .inl a1)]) (stₚ := []) (hₚ := gc_h sh I J A) (C := (True ∧ True)) rfl ⟨trivial, trivial⟩ ?_
  refine gv_pick [1, 2, 0] rfl ?_
  exact L5 _ (I 61 15) (Nat.lt_succ_self _) (by (/-80-/first | (and_intros; (omega); (omega); (have o1 := gz_sh f1; omega); (have o1 := gz_sh f1; omega); (omega)) | (simp only [gz_hd] at *; omega)))
