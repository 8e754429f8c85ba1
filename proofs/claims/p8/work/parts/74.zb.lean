def gc_FB (p : Nat) (wb : Int) (I : gr_I) : Prop := (∀ h : Nat, h < 512 → I (p + 4) h < wb) ∧ ∀ d : Nat, I (p + 3) d ≤ 0 ∨ I (p + 3) d < wb
theorem gc_FB_fr {p : Nat} {wb : Int} {I I' : gr_I} (h : gc_FB p wb I) (h4 : ∀ k, I' (p + 4) k = I (p + 4) k) (h3 : ∀ k, I' (p + 3) k = I (p + 3) k) : gc_FB p wb I' := ⟨fun k hk => by rw [h4]; exact h.1 k hk, fun k => by rw [h3]; exact h.2 k⟩
theorem gc_FB_c {p k : Nat} {wb : Int} {I I' : gr_I} (h : gc_FB p wb I) (hp : ∀ q j, ¬ (q = p + 3 ∧ j = k) → I' q j = I q j) (hz : I' (p + 3) k < wb) : gc_FB p wb I' := ⟨fun j hj => by rw [hp _ _ (fun e => by have := e.1; omega)]; exact h.1 j hj, fun j => by
  by_cases e : j = k
  · rw [e]; exact Or.inr hz
  · rw [hp _ _ (fun e2 => e e2.2)]; exact h.2 j⟩
theorem gc_FB_h {p k : Nat} {wb : Int} {I I' : gr_I} (h : gc_FB p wb I) (hp : ∀ q j, ¬ (q = p + 4 ∧ j = k) → I' q j = I q j) (hz : I' (p + 4) k < wb) : gc_FB p wb I' := ⟨fun j hj => by
  by_cases e : j = k
  · rw [e]; exact hz
  · rw [hp _ _ (fun e2 => e e2.2)]; exact h.1 j hj, fun j => by rw [hp _ _ (fun e => by have := e.1; omega)]; exact h.2 j⟩
theorem gc_FB_fill {p : Nat} {wb wb' : Int} {I I' : gr_I} (h : gc_FB p wb I) (hb : wb ≤ wb') (h0 : 0 ≤ wb') (hq : ∀ j, j < 512 → I' (p + 4) j = -1) (h3 : ∀ k, I' (p + 3) k = I (p + 3) k) : gc_FB p wb' I' := ⟨fun k hk => by rw [hq k hk]; omega, fun k => by rw [h3]; exact (h.2 k).imp id (fun e => by omega)⟩
set_option maxHeartbeats 8000000 in
set_option maxRecDepth 100000 in
theorem d_X2_build_0 {ws0 : List Cond} {tb : String → gz_T} (hws : gc_Ws ws0) (htb : gc_tbs tb) (sh : gz_Sh) (ro : Nat → Nat) (I : gr_I) (J : gr_J) (A : gc_A) (hI : gc_Inv ro I) (p : Nat) (a1 : Nat) (hp : gc_isForms sh ro A p) (h_a1 : gc_isTongue sh ro A a1) (G_a1 : 144 ≤ a1)  (x0 : gc_sc (a1 + 10) I) (x1 : p = a1 + 17) (x2 : gc_FB p (24 * I p 8) I) (x3 : I p 8 ≤ I a1 11) : ∃ r h', gz_Ev ws0 tb 5 (yX2_build, cX2_build, 7, none) [.inr (.inr (some p)), .inr (.inr (some a1))] sh (gc_h sh I J A) r sh h' 0 0 ∧ (∃ (I' : gr_I) (J' : gr_J), h' = gc_h sh I' J' A ∧ gc_Inv ro I' ∧ (∀ q j : Nat, ((q = p ∧ j = 6) ∨ (q = p ∧ j = 7) ∨ (q = p ∧ j = 8) ∨ (q = p ∧ j = 9) ∨ q = (p + 1) ∨ q = (p + 2) ∨ q = (p + 3) ∨ q = (p + 4) ∨ q = (p + 6) ∨ q = (p + 7)) ∨ I' q j = I q j) ∧ (∀ q j : Nat, (False) ∨ J' q j = J q j) ∧ r = none ∧ (gc_FB p (24 * I a1 11) I') ∧ (I' p 8 = I a1 11) ∧ (I p 6 = I p 7 ∨ ¬ I' p 6 = I' p 7)) := by
  have FI : ∀ q j : Nat, ((q = p ∧ j = 6) ∨ (q = p ∧ j = 7) ∨ (q = p ∧ j = 8) ∨ (q = p ∧ j = 9) ∨ q = (p + 1) ∨ q = (p + 2) ∨ q = (p + 3) ∨ q = (p + 4) ∨ q = (p + 6) ∨ q = (p + 7)) ∨ I q j = I q j := fun _ _ => Or.inr rfl
  have FJ : ∀ q j : Nat, (False) ∨ J q j = J q j := fun _ _ => Or.inr rfl
  obtain ⟨S_p, R_p, B_p, A_p_0, S_20, R_20, B_20, A_p_1, S_p_1, R_p_1, B_p_1, A_p_2, S_p_2, R_p_2, B_p_2, A_p_3, S_p_3, R_p_3, B_p_3, A_p_4, S_p_4, R_p_4, B_p_4, A_p_5, S_p_5, R_p_5, B_p_5, S_p_6, R_p_6, B_p_6, S_p_7, R_p_7, B_p_7⟩ := id hp
  obtain ⟨S_a1, R_a1, B_a1, A_a1_0, h_a1_1, A_a1_1, h_a1_3, A_a1_2, S_a1_5, R_a1_5, B_a1_5, A_a1_3, S_a1_6, R_a1_6, B_a1_6, A_a1_4, h_a1_7, A_a1_5, S_a1_9, R_a1_9, B_a1_9, A_a1_7, S_a1_10, R_a1_10, B_a1_10, A_a1_8, h_a1_11, A_a1_9, S_a1_13, R_a1_13, B_a1_13, A_a1_10, S_a1_14, R_a1_14, B_a1_14, A_a1_12, S_a1_15, R_a1_15, B_a1_15, A_a1_14, S_a1_16, R_a1_16, B_a1_16, A_a1_15, h_a1_17⟩ := id h_a1
  obtain ⟨S_a1_1, R_a1_1, B_a1_1, A_a1_1_0, S_a1_1_1, R_a1_1_1, B_a1_1_1, Q0_a1_1, Q1_a1_1, Q2_a1_1⟩ := id h_a1_1
  obtain ⟨S_a1_3, R_a1_3, B_a1_3, A_a1_3_0, S_a1_3_1, R_a1_3_1, B_a1_3_1, Q0_a1_3, Q1_a1_3, Q2_a1_3⟩ := id h_a1_3
  obtain ⟨S_a1_7, R_a1_7, B_a1_7, A_a1_7_0, S_a1_7_1, R_a1_7_1, B_a1_7_1, Q0_a1_7, Q1_a1_7, Q2_a1_7⟩ := id h_a1_7
  obtain ⟨S_a1_11, R_a1_11, B_a1_11, A_a1_11_0, S_a1_11_1, R_a1_11_1, B_a1_11_1, Q0_a1_11, Q1_a1_11, Q2_a1_11⟩ := id h_a1_11
  obtain ⟨S_a1_17, R_a1_17, B_a1_17, A_a1_17_0, S_20, R_20, B_20, A_a1_17_1, S_a1_17_1, R_a1_17_1, B_a1_17_1, A_a1_17_2, S_a1_17_2, R_a1_17_2, B_a1_17_2, A_a1_17_3, S_a1_17_3, R_a1_17_3, B_a1_17_3, A_a1_17_4, S_a1_17_4, R_a1_17_4, B_a1_17_4, A_a1_17_5, S_a1_17_5, R_a1_17_5, B_a1_17_5, S_a1_17_6, R_a1_17_6, B_a1_17_6, S_a1_17_7, R_a1_17_7, B_a1_17_7⟩ := id h_a1_17
  have hD : gv_D (gc_E2 ws0 tb 4 (yX2_build, cX2_build, 7, none) kX2_build) := gq_of oX2_build
  refine gc_ev2 (d := 4) (l := kX2_build) (Po := fun r h' => (∃ (I' : gr_I) (J' : gr_J), h' = gc_h sh I' J' A ∧ gc_Inv ro I' ∧ (∀ q j : Nat, ((q = p ∧ j = 6) ∨ (q = p ∧ j = 7) ∨ (q = p ∧ j = 8) ∨ (q = p ∧ j = 9) ∨ q = (p + 1) ∨ q = (p + 2) ∨ q = (p + 3) ∨ q = (p + 4) ∨ q = (p + 6) ∨ q = (p + 7)) ∨ I' q j = I q j) ∧ (∀ q j : Nat, (False) ∨ J' q j = J q j) ∧ r = none ∧ (gc_FB p (24 * I a1 11) I') ∧ (I' p 8 = I a1 11) ∧ (I p 6 = I p 7 ∨ ¬ I' p 6 = I' p 7))) htb rfl (Nat.le_of_ble_eq_true rfl) ?_
  have N_a1__p_2 : ¬ (a1 = (p + 2)) := by exact gz_m 0 (by omega)
  have N_p__p_2 : ¬ (p = (p + 2)) := by exact gz_m 1 (by omega)
  have N_p_4__p_2 : ¬ ((p + 4) = (p + 2)) := by exact gz_m 2 (by omega)
  have N_p_3__p_2 : ¬ ((p + 3) = (p + 2)) := by exact gz_m 3 (by omega)
  have N_p_4__p_1 : ¬ ((p + 4) = (p + 1)) := by exact gz_m 4 (by omega)
  have N_p_3__p_1 : ¬ ((p + 3) = (p + 1)) := by exact gz_m 5 (by omega)
  have N_a1__p_1 : ¬ (a1 = (p + 1)) := by exact gz_m 6 (by omega)
  have N_p__p_1 : ¬ (p = (p + 1)) := by exact gz_m 7 (by omega)
  have N_p_2__p_1 : ¬ ((p + 2) = (p + 1)) := by exact gz_m 8 (by omega)
  have N_a1__p_3 : ¬ (a1 = (p + 3)) := by exact gz_m 9 (by omega)
  have N_p__p_3 : ¬ (p = (p + 3)) := by exact gz_m 10 (by omega)
  have N_p_2__p_3 : ¬ ((p + 2) = (p + 3)) := by exact gz_m 11 (by omega)
  have N_a1__p_4 : ¬ (a1 = (p + 4)) := by exact gz_m 12 (by omega)
  have N_p__p_4 : ¬ (p = (p + 4)) := by exact gz_m 13 (by omega)
  have N_p_2__p_4 : ¬ ((p + 2) = (p + 4)) := by exact gz_m 14 (by omega)
  have N_a1__p_6 : ¬ (a1 = (p + 6)) := by exact gz_m 15 (by omega)
  have N_a1__p_7 : ¬ (a1 = (p + 7)) := by exact gz_m 16 (by omega)
  have N_p__p_6 : ¬ (p = (p + 6)) := by exact gz_m 17 (by omega)
  have N_p__p_7 : ¬ (p = (p + 7)) := by exact gz_m 18 (by omega)
  have N_p_2__p_6 : ¬ ((p + 2) = (p + 6)) := by exact gz_m 19 (by omega)
  have N_p_2__p_7 : ¬ ((p + 2) = (p + 7)) := by exact gz_m 20 (by omega)
  have N_p_4__p_6 : ¬ ((p + 4) = (p + 6)) := by exact gz_m 21 (by omega)
  have N_p_4__p_7 : ¬ ((p + 4) = (p + 7)) := by exact gz_m 22 (by omega)
  have N_p_3__p_6 : ¬ ((p + 3) = (p + 6)) := by exact gz_m 23 (by omega)
  have N_p_3__p_7 : ¬ ((p + 3) = (p + 7)) := by exact gz_m 24 (by omega)
  have N_p_2__p : ¬ ((p + 2) = p) := by exact gz_m 25 (by omega)
  have N_p_4__p : ¬ ((p + 4) = p) := by exact gz_m 26 (by omega)
  have N_p_3__p : ¬ ((p + 3) = p) := by exact gz_m 27 (by omega)
  have f1 := (show 0 ≤ I a1 11 ∧ I a1 11 ≤ 64 from gc_in hI R_a1 rfl rfl)
  have f2 := (show 0 ≤ I p 8 ∧ I p 8 ≤ 64 from gc_in hI R_p rfl rfl)
  have f3 := (show 0 ≤ I p 6 ∧ I p 6 ≤ 1 from gc_in hI R_p rfl rfl)
  have f4 := (show 0 ≤ I p 7 ∧ I p 7 ≤ 1 from gc_in hI R_p rfl rfl)
  have L23 : ((I a1 11 = I a1 11) ∧ (I p 6 = I p 7 ∨ ¬ I p 6 = I p 7)) → gv_X (gc_E2 ws0 tb 4 (yX2_build, cX2_build, 7, none) kX2_build) (gv_Q cX2_build none sh (fun r h' => (∃ (I' : gr_I) (J' : gr_J), h' = gc_h sh I' J' A ∧ gc_Inv ro I' ∧ (∀ q j : Nat, ((q = p ∧ j = 6) ∨ (q = p ∧ j = 7) ∨ (q = p ∧ j = 8) ∨ (q = p ∧ j = 9) ∨ q = (p + 1) ∨ q = (p + 2) ∨ q = (p + 3) ∨ q = (p + 4) ∨ q = (p + 6) ∨ q = (p + 7)) ∨ I' q j = I q j) ∧ (∀ q j : Nat, (False) ∨ J' q j = J q j) ∧ r = none ∧ (gc_FB p (24 * I a1 11) I') ∧ (I' p 8 = I a1 11) ∧ (I p 6 = I p 7 ∨ ¬ I' p 6 = I' p 7)))) (23, [(0, .inr (.inr (some p))), (1, .inr (.inr (some a1)))], [], sh, gc_h sh I J A) := by
    intro m_5
    obtain ⟨e0_5, e1_5⟩ := m_5
    have f6 := (show 0 ≤ I a1 11 ∧ I a1 11 ≤ 64 from gc_in hI R_a1 rfl rfl)
    have f7 := (show 0 ≤ I p 8 ∧ I p 8 ≤ 64 from gc_in hI R_p rfl rfl)
    have f8 := (show 0 ≤ I p 6 ∧ I p 6 ≤ 1 from gc_in hI R_p rfl rfl)
    have f9 := (show 0 ≤ I p 7 ∧ I p 7 ≤ 1 from gc_in hI R_p rfl rfl)
    have L54 : ∀ (n9 : Nat) (I10 : gr_I) (J11 : gr_J) (v2_12 : Int), (v2_12 - (-2)).toNat < n9 → gc_Inv ro I10 → (∀ q j : Nat, ((q = p ∧ j = 6) ∨ (q = p ∧ j = 7) ∨ (q = p ∧ j = 8) ∨ (q = p ∧ j = 9) ∨ q = (p + 1) ∨ q = (p + 2) ∨ q = (p + 3) ∨ q = (p + 4) ∨ q = (p + 6) ∨ q = (p + 7)) ∨ I10 q j = I q j) → (∀ q j : Nat, (False) ∨ J11 q j = J q j) → gc_FB p (24 * I a1 11) I10 → (((-1) ≤ v2_12 ∧ v2_12 ≤ 63) ∧ (v2_12 < I a1 11) ∧ (I10 p 8 = I a1 11) ∧ (I10 a1 11 = I a1 11) ∧ (I p 6 = I p 7 ∨ ¬ I10 p 6 = I10 p 7)) → gv_X (gc_E2 ws0 tb 4 (yX2_build, cX2_build, 7, none) kX2_build) (gv_Q cX2_build none sh (fun r h' => (∃ (I' : gr_I) (J' : gr_J), h' = gc_h sh I' J' A ∧ gc_Inv ro I' ∧ (∀ q j : Nat, ((q = p ∧ j = 6) ∨ (q = p ∧ j = 7) ∨ (q = p ∧ j = 8) ∨ (q = p ∧ j = 9) ∨ q = (p + 1) ∨ q = (p + 2) ∨ q = (p + 3) ∨ q = (p + 4) ∨ q = (p + 6) ∨ q = (p + 7)) ∨ I' q j = I q j) ∧ (∀ q j : Nat, (False) ∨ J' q j = J q j) ∧ r = none ∧ (gc_FB p (24 * I a1 11) I') ∧ (I' p 8 = I a1 11) ∧ (I p 6 = I p 7 ∨ ¬ I' p 6 = I' p 7)))) (54, [(0, .inr (.inr (some p))), (1, .inr (.inr (some a1))), (2, .inl v2_12)], [], sh, gc_h sh I10 J11 A) := by
      intro n9
      induction n9 with
      | zero => intro I10 J11 v2_12 hn; exact gz_m 28 (by omega)
      | succ n9 ih54 =>
        intro I10 J11 v2_12 hn hI10 FI10 FJ11 KFB_I10 m_12
        clear e0_5 e1_5 f6 f7 f8 f9
        obtain ⟨hv2_12, e0_12, e1_12, e2_12, e3_12⟩ := m_12
        have f13 := (show 0 ≤ I10 a1 11 ∧ I10 a1 11 ≤ 64 from gc_in hI10 R_a1 rfl rfl)
        have f14 := (show 0 ≤ I10 p 8 ∧ I10 p 8 ≤ 64 from gc_in hI10 R_p rfl rfl)
        have f15 := (show 0 ≤ I10 p 6 ∧ I10 p 6 ≤ 1 from gc_in hI10 R_p rfl rfl)
        have f16 := (show 0 ≤ I10 p 7 ∧ I10 p 7 ≤ 1 from gc_in hI10 R_p rfl rfl)
        have L66 : ∀ (n9 : Nat) (I17 : gr_I) (J18 : gr_J) (v3_19 : Int), (v3_19 - (-2)).toNat < n9 → gc_Inv ro I17 → (∀ q j : Nat, ((q = p ∧ j = 6) ∨ (q = p ∧ j = 7) ∨ (q = p ∧ j = 8) ∨ (q = p ∧ j = 9) ∨ q = (p + 1) ∨ q = (p + 2) ∨ q = (p + 3) ∨ q = (p + 4) ∨ q = (p + 6) ∨ q = (p + 7)) ∨ I17 q j = I q j) → (∀ q j : Nat, (False) ∨ J18 q j = J q j) → gc_FB p (24 * I a1 11) I17 → ((0 ≤ v2_12 ∧ v2_12 ≤ 63) ∧ ((-1) ≤ v3_19 ∧ v3_19 ≤ 23) ∧ (v2_12 < I a1 11) ∧ (I17 p 8 = I a1 11) ∧ (I17 a1 11 = I a1 11) ∧ (I p 6 = I p 7 ∨ ¬ I17 p 6 = I17 p 7)) → gv_X (gc_E2 ws0 tb 4 (yX2_build, cX2_build, 7, none) kX2_build) (gv_Q cX2_build none sh (fun r h' => (∃ (I' : gr_I) (J' : gr_J), h' = gc_h sh I' J' A ∧ gc_Inv ro I' ∧ (∀ q j : Nat, ((q = p ∧ j = 6) ∨ (q = p ∧ j = 7) ∨ (q = p ∧ j = 8) ∨ (q = p ∧ j = 9) ∨ q = (p + 1) ∨ q = (p + 2) ∨ q = (p + 3) ∨ q = (p + 4) ∨ q = (p + 6) ∨ q = (p + 7)) ∨ I' q j = I q j) ∧ (∀ q j : Nat, (False) ∨ J' q j = J q j) ∧ r = none ∧ (gc_FB p (24 * I a1 11) I') ∧ (I' p 8 = I a1 11) ∧ (I p 6 = I p 7 ∨ ¬ I' p 6 = I' p 7)))) (66, [(0, .inr (.inr (some p))), (1, .inr (.inr (some a1))), (2, .inl v2_12), (3, .inl v3_19)], [], sh, gc_h sh I17 J18 A) := by
          intro n9
          induction n9 with
          | zero => intro I17 J18 v3_19 hn; exact gz_m 29 (by omega)
          | succ n9 ih66 =>
            intro I17 J18 v3_19 hn hI17 FI17 FJ18 KFB_I17 m_19
            clear hv2_12 e0_12 e1_12 e2_12 e3_12 f13 f14 f15 f16
            obtain ⟨hv2_12_19, hv3_19, e0_19, e1_19, e2_19, e3_19⟩ := m_19
            have f20 := (show 0 ≤ I17 a1 11 ∧ I17 a1 11 ≤ 64 from gc_in hI17 R_a1 rfl rfl)
            have f21 := (show 0 ≤ I17 p 8 ∧ I17 p 8 ≤ 64 from gc_in hI17 R_p rfl rfl)
            have f22 := (show 0 ≤ I17 p 6 ∧ I17 p 6 ≤ 1 from gc_in hI17 R_p rfl rfl)
            have f23 := (show 0 ≤ I17 p 7 ∧ I17 p 7 ≤ 1 from gc_in hI17 R_p rfl rfl)
            have L109 : ∀ (I24 : gr_I) (J25 : gr_J) (v4_26 : Int) (s1_26 : Int) (s2_26 : Int), gc_Inv ro I24 → (∀ q j : Nat, ((q = p ∧ j = 6) ∨ (q = p ∧ j = 7) ∨ (q = p ∧ j = 8) ∨ (q = p ∧ j = 9) ∨ q = (p + 1) ∨ q = (p + 2) ∨ q = (p + 3) ∨ q = (p + 4) ∨ q = (p + 6) ∨ q = (p + 7)) ∨ I24 q j = I q j) → (∀ q j : Nat, (False) ∨ J25 q j = J q j) → gc_FB p (24 * I a1 11) I24 → ((0 ≤ v2_12 ∧ v2_12 ≤ 63) ∧ (0 ≤ v3_19 ∧ v3_19 ≤ 23) ∧ (0 ≤ v4_26 ∧ v4_26 ≤ 1535) ∧ (0 ≤ s1_26 ∧ s1_26 ≤ 1535) ∧ ((-1) ≤ s2_26 ∧ s2_26 ≤ 24) ∧ (v2_12 < I a1 11) ∧ (I24 p 8 = I a1 11) ∧ (v4_26 = v2_12 * 24 + v3_19) ∧ (I24 a1 11 = I a1 11) ∧ (I p 6 = I p 7 ∨ ¬ I24 p 6 = I24 p 7)) → gv_X (gc_E2 ws0 tb 4 (yX2_build, cX2_build, 7, none) kX2_build) (gv_Q cX2_build none sh (fun r h' => (∃ (I' : gr_I) (J' : gr_J), h' = gc_h sh I' J' A ∧ gc_Inv ro I' ∧ (∀ q j : Nat, ((q = p ∧ j = 6) ∨ (q = p ∧ j = 7) ∨ (q = p ∧ j = 8) ∨ (q = p ∧ j = 9) ∨ q = (p + 1) ∨ q = (p + 2) ∨ q = (p + 3) ∨ q = (p + 4) ∨ q = (p + 6) ∨ q = (p + 7)) ∨ I' q j = I q j) ∧ (∀ q j : Nat, (False) ∨ J' q j = J q j) ∧ r = none ∧ (gc_FB p (24 * I a1 11) I') ∧ (I' p 8 = I a1 11) ∧ (I p 6 = I p 7 ∨ ¬ I' p 6 = I' p 7)))) (109, [(0, .inr (.inr (some p))), (1, .inr (.inr (some a1))), (2, .inl v2_12), (3, .inl v3_19), (4, .inl v4_26)], [.inl s2_26, .inl s1_26, .inr (.inr (some (p + 2)))], sh, gc_h sh I24 J25 A) := by
              intro I24 J25 v4_26 s1_26 s2_26 hI24 FI24 FJ25 KFB_I24 m_26
              clear hv2_12_19 hv3_19 e0_19 e1_19 e2_19 e3_19 f20 f21 f22 f23
              obtain ⟨hv2_12_26, hv3_19_26, hv4_26, hs1_26, hs2_26, e0_26, e1_26, e2_26, e3_26, e4_26⟩ := m_26
              have f27 := (show 0 ≤ I24 a1 11 ∧ I24 a1 11 ≤ 64 from gc_in hI24 R_a1 rfl rfl)
              have f28 := (show 0 ≤ I24 p 8 ∧ I24 p 8 ≤ 64 from gc_in hI24 R_p rfl rfl)
              have f29 := (show 0 ≤ I24 p 6 ∧ I24 p 6 ≤ 1 from gc_in hI24 R_p rfl rfl)
              have f30 := (show 0 ≤ I24 p 7 ∧ I24 p 7 ≤ 1 from gc_in hI24 R_p rfl rfl)
              have L184 : ∀ (I31 : gr_I) (J32 : gr_J) , gc_Inv ro I31 → (∀ q j : Nat, ((q = p ∧ j = 6) ∨ (q = p ∧ j = 7) ∨ (q = p ∧ j = 8) ∨ (q = p ∧ j = 9) ∨ q = (p + 1) ∨ q = (p + 2) ∨ q = (p + 3) ∨ q = (p + 4) ∨ q = (p + 6) ∨ q = (p + 7)) ∨ I31 q j = I q j) → (∀ q j : Nat, (False) ∨ J32 q j = J q j) → gc_FB p (24 * I a1 11) I31 → ((0 ≤ v2_12 ∧ v2_12 ≤ 63) ∧ (0 ≤ v3_19 ∧ v3_19 ≤ 23) ∧ (v2_12 < I a1 11) ∧ (I31 p 8 = I a1 11) ∧ (I31 a1 11 = I a1 11) ∧ (I p 6 = I p 7 ∨ ¬ I31 p 6 = I31 p 7)) → gv_X (gc_E2 ws0 tb 4 (yX2_build, cX2_build, 7, none) kX2_build) (gv_Q cX2_build none sh (fun r h' => (∃ (I' : gr_I) (J' : gr_J), h' = gc_h sh I' J' A ∧ gc_Inv ro I' ∧ (∀ q j : Nat, ((q = p ∧ j = 6) ∨ (q = p ∧ j = 7) ∨ (q = p ∧ j = 8) ∨ (q = p ∧ j = 9) ∨ q = (p + 1) ∨ q = (p + 2) ∨ q = (p + 3) ∨ q = (p + 4) ∨ q = (p + 6) ∨ q = (p + 7)) ∨ I' q j = I q j) ∧ (∀ q j : Nat, (False) ∨ J' q j = J q j) ∧ r = none ∧ (gc_FB p (24 * I a1 11) I') ∧ (I' p 8 = I a1 11) ∧ (I p 6 = I p 7 ∨ ¬ I' p 6 = I' p 7)))) (184, [(0, .inr (.inr (some p))), (1, .inr (.inr (some a1))), (2, .inl v2_12), (3, .inl v3_19)], [], sh, gc_h sh I31 J32 A) := by
                intro I31 J32 hI31 FI31 FJ32 KFB_I31 m_33
                clear hv2_12_26 hv3_19_26 hv4_26 hs1_26 hs2_26 e0_26 e1_26 e2_26 e3_26 e4_26 f27 f28 f29 f30
                obtain ⟨hv2_12_33, hv3_19_33, e0_33, e1_33, e2_33, e3_33⟩ := m_33
                have f34 := (show 0 ≤ I31 a1 11 ∧ I31 a1 11 ≤ 64 from gc_in hI31 R_a1 rfl rfl)
                have f35 := (show 0 ≤ I31 p 8 ∧ I31 p 8 ≤ 64 from gc_in hI31 R_p rfl rfl)
                have f36 := (show 0 ≤ I31 p 6 ∧ I31 p 6 ≤ 1 from gc_in hI31 R_p rfl rfl)
                have f37 := (show 0 ≤ I31 p 7 ∧ I31 p 7 ≤ 1 from gc_in hI31 R_p rfl rfl)
                refine gv_run 2 true hD (pc' := 66) (lv' := [(3, .inl (v3_19 + (-1))), (0, .inr (.inr (some p))), (1, .inr (.inr (some a1))), (2, .inl v2_12)]) (st' := []) (h' := gc_h sh I31 J32 A) (C := ((True ∧ True) ∧ True)) rfl ⟨⟨trivial, trivial⟩, trivial⟩ ?_
                refine gv_pick [1, 2, 3, 0] rfl ?_
                exact ih66 I31 J32 ((v3_19 + (-1))) (by exact gz_m 30 (by omega)) hI31 FI31 FJ32 KFB_I31 (by exact gz_m 31 (by omega))
              refine gv_iast hD rfl S_p_2 ⟨by decide, B_p_2⟩ ⟨by exact gz_m 32 (by omega), by exact gz_m 33 (by omega)⟩ ?_
              refine gc_st hI24 S_p_2 rfl R_p_2 (lo := (-1)) (hi := 24) rfl rfl (by exact gz_m 34 (by omega)) (by exact gz_m 35 (by omega)) (fun I38 hI38 q39 p39 => ?_)
              have FI38 := gc_frs (W := fun q j => (q = p ∧ j = 6) ∨ (q = p ∧ j = 7) ∨ (q = p ∧ j = 8) ∨ (q = p ∧ j = 9) ∨ q = (p + 1) ∨ q = (p + 2) ∨ q = (p + 3) ∨ q = (p + 4) ∨ q = (p + 6) ∨ q = (p + 7)) FI24 (Or.inr (Or.inr (Or.inr (Or.inr (Or.inr (Or.inl rfl)))))) p39
              have t40 := p39 a1 11 (fun h => absurd h.1 N_a1__p_2)
              have t41 := p39 p 8 (fun h => absurd h.1 N_p__p_2)
              have t42 := p39 p 6 (fun h => absurd h.1 N_p__p_2)
              have t43 := p39 p 7 (fun h => absurd h.1 N_p__p_2)
              have KFB_I38 := gc_FB_fr KFB_I24 (fun k => p39 (p + 4) k (fun h => absurd h.1 N_p_4__p_2)) (fun k => p39 (p + 3) k (fun h => absurd h.1 N_p_3__p_2))
              show gv_X _ _ (110, [(0, .inr (.inr (some p))), (1, .inr (.inr (some a1))), (2, .inl v2_12), (3, .inl v3_19), (4, .inl v4_26)], [], sh, gc_h sh I38 J25 A)
              refine gv_run 1 true hD (pc' := 111) (lv' := [(0, .inr (.inr (some p))), (1, .inr (.inr (some a1))), (2, .inl v2_12), (3, .inl v3_19), (4, .inl v4_26)]) (st' := [.inr (.inr (some p))]) (h' := gc_h sh I38 J25 A) (C := (True ∧ True)) rfl ⟨trivial, trivial⟩ ?_
              refine gv_get hD rfl rfl S_p ⟨by decide, B_p⟩ (gc_hA S_p rfl A_p_2) ?_
              show gv_X _ _ (114, [(0, .inr (.inr (some p))), (1, .inr (.inr (some a1))), (2, .inl v2_12), (3, .inl v3_19), (4, .inl v4_26)], [.inr (.inr (some (p + 2)))], sh, gc_h sh I38 J25 A)
              refine gv_run 1 true hD (pc' := 116) (lv' := [(0, .inr (.inr (some p))), (1, .inr (.inr (some a1))), (2, .inl v2_12), (3, .inl v3_19), (4, .inl v4_26)]) (st' := [.inl v4_26, .inr (.inr (some (p + 2)))]) (h' := gc_h sh I38 J25 A) (C := (True ∧ True)) rfl ⟨trivial, trivial⟩ ?_
              have f44 := (show (-1) ≤ I38 (p + 2) (Int.toNat v4_26) ∧ I38 (p + 2) (Int.toNat v4_26) ≤ 24 from gc_in hI38 R_p_2 rfl rfl)
              refine gv_iald hD rfl S_p_2 rfl ⟨by decide, B_p_2⟩ ⟨by exact gz_m 36 (by omega), by exact gz_m 37 (by omega)⟩ (gc_iI S_p_2 rfl) ?_
              show gv_X _ _ (117, [(0, .inr (.inr (some p))), (1, .inr (.inr (some a1))), (2, .inl v2_12), (3, .inl v3_19), (4, .inl v4_26)], [.inl (I38 (p + 2) (Int.toNat v4_26))], sh, gc_h sh I38 J25 A)
              refine gv_if_le (t := 184) hD rfl rfl ⟨by exact gz_m 38 (by omega), by exact gz_m 39 (by omega)⟩ (fun c45 => ?_) (fun c45 => ?_)
              · show gv_X _ _ (184, [(0, .inr (.inr (some p))), (1, .inr (.inr (some a1))), (2, .inl v2_12), (3, .inl v3_19), (4, .inl v4_26)], [], sh, gc_h sh I38 J25 A)
                refine gv_pick [0, 1, 2, 3] rfl ?_
                exact L184 I38 J25 hI38 FI38 FJ25 KFB_I38 (by exact gz_m 40 (by omega))
              · show gv_X _ _ (120, [(0, .inr (.inr (some p))), (1, .inr (.inr (some a1))), (2, .inl v2_12), (3, .inl v3_19), (4, .inl v4_26)], [], sh, gc_h sh I38 J25 A)
                refine gv_run 1 true hD (pc' := 121) (lv' := [(0, .inr (.inr (some p))), (1, .inr (.inr (some a1))), (2, .inl v2_12), (3, .inl v3_19), (4, .inl v4_26)]) (st' := [.inr (.inr (some p))]) (h' := gc_h sh I38 J25 A) (C := (True ∧ True)) rfl ⟨trivial, trivial⟩ ?_
                have f47 := (show 0 ≤ I38 p 6 ∧ I38 p 6 ≤ 1 from gc_in hI38 R_p rfl rfl)
                obtain ⟨f46_, hq_f46_, S_f46, R_f46, B_f46, D_f46⟩ := gc_sw (p := p) (d := 6) (s := 1) (z := I38 p 6) (show 0 ≤ I38 p 6 ∧ I38 p 6 ≤ 1 from gc_in hI38 R_p rfl rfl) S_p_6 R_p_6 B_p_6 S_p_7 R_p_7 B_p_7
                refine gv_get hD rfl rfl S_p ⟨by decide, B_p⟩ (gc_hS (n := 6) S_p rfl hq_f46_) ?_
                show gv_X _ _ (124, [(0, .inr (.inr (some p))), (1, .inr (.inr (some a1))), (2, .inl v2_12), (3, .inl v3_19), (4, .inl v4_26)], [.inr (.inr (some f46_))], sh, gc_h sh I38 J25 A)
                refine gv_run 2 true hD (pc' := 126) (lv' := [(0, .inr (.inr (some p))), (1, .inr (.inr (some a1))), (2, .inl v2_12), (3, .inl v3_19), (4, .inl v4_26)]) (st' := [.inr (.inr (some p)), .inl 0, .inr (.inr (some f46_))]) (h' := gc_h sh I38 J25 A) (C := ((True ∧ True) ∧ True)) rfl ⟨⟨trivial, trivial⟩, trivial⟩ ?_
                refine gv_get hD rfl rfl S_p ⟨by decide, B_p⟩ (gc_hA S_p rfl A_p_1) ?_
                show gv_X _ _ (129, [(0, .inr (.inr (some p))), (1, .inr (.inr (some a1))), (2, .inl v2_12), (3, .inl v3_19), (4, .inl v4_26)], [.inr (.inr (some (p + 1))), .inl 0, .inr (.inr (some f46_))], sh, gc_h sh I38 J25 A)
                refine gv_run 4 true hD (pc' := 135) (lv' := [(0, .inr (.inr (some p))), (1, .inr (.inr (some a1))), (2, .inl v2_12), (3, .inl v3_19), (4, .inl v4_26)]) (st' := [.inr (.inr (some p)), .inl (v4_26 * 24), .inr (.inr (some (p + 1))), .inl 0, .inr (.inr (some f46_))]) (h' := gc_h sh I38 J25 A) (C := ((((True ∧ True) ∧ True) ∧ True) ∧ True)) rfl ⟨⟨⟨⟨trivial, trivial⟩, trivial⟩, trivial⟩, trivial⟩ ?_
                refine gv_get hD rfl rfl S_p ⟨by decide, B_p⟩ (gc_hA S_p rfl A_p_2) ?_
                show gv_X _ _ (138, [(0, .inr (.inr (some p))), (1, .inr (.inr (some a1))), (2, .inl v2_12), (3, .inl v3_19), (4, .inl v4_26)], [.inr (.inr (some (p + 2))), .inl (v4_26 * 24), .inr (.inr (some (p + 1))), .inl 0, .inr (.inr (some f46_))], sh, gc_h sh I38 J25 A)
                refine gv_run 1 true hD (pc' := 140) (lv' := [(0, .inr (.inr (some p))), (1, .inr (.inr (some a1))), (2, .inl v2_12), (3, .inl v3_19), (4, .inl v4_26)]) (st' := [.inl v4_26, .inr (.inr (some (p + 2))), .inl (v4_26 * 24), .inr (.inr (some (p + 1))), .inl 0, .inr (.inr (some f46_))]) (h' := gc_h sh I38 J25 A) (C := (True ∧ True)) rfl ⟨trivial, trivial⟩ ?_
                have f48 := (show (-1) ≤ I38 (p + 2) (Int.toNat v4_26) ∧ I38 (p + 2) (Int.toNat v4_26) ≤ 24 from gc_in hI38 R_p_2 rfl rfl)
                refine gv_iald hD rfl S_p_2 rfl ⟨by decide, B_p_2⟩ ⟨by exact gz_m 41 (by omega), by exact gz_m 42 (by omega)⟩ (gc_iI S_p_2 rfl) ?_
                show gv_X _ _ (141, [(0, .inr (.inr (some p))), (1, .inr (.inr (some a1))), (2, .inl v2_12), (3, .inl v3_19), (4, .inl v4_26)], [.inl (I38 (p + 2) (Int.toNat v4_26)), .inl (v4_26 * 24), .inr (.inr (some (p + 1))), .inl 0, .inr (.inr (some f46_))], sh, gc_h sh I38 J25 A)
                refine gv_copy hD rfl (gc_lC2_71 hws) (Nat.le_of_ble_eq_true rfl) ⟨B_f46, B_p_1⟩ S_f46 S_p_1 (by decide) ⟨by decide, by decide⟩ ⟨by exact gz_m 43 (by omega), by exact gz_m 44 (by omega), by exact gz_m 45 (by omega)⟩ (by exact gz_m 46 (by omega)) (by exact gz_m 47 (by omega)) (fun _ k _ => by rw [gc_iI S_f46 rfl]; have h9 := (show (-128) ≤ I38 f46_ (Int.toNat 0 + k) ∧ I38 f46_ (Int.toNat 0 + k) ≤ 127 from gc_in hI38 R_f46 rfl rfl); exact ⟨by exact gz_m 48 (by omega), by exact gz_m 49 (by omega)⟩) ?_
                refine gc_cp hI38 S_f46 S_p_1 (by decide) (fun j hj => by have h9 := (show (-128) ≤ I38 f46_ (Int.toNat 0 + j) ∧ I38 f46_ (Int.toNat 0 + j) ≤ 127 from gc_in hI38 R_f46 rfl rfl); rw [R_p_1]; exact ⟨by show (-128) ≤ _; exact gz_m 50 (by omega), by show _ ≤ 127; exact gz_m 51 (by omega)⟩) (fun I50 hI50 p49 q49 => ?_)
                have FI50 := gc_frp (W := fun q j => (q = p ∧ j = 6) ∨ (q = p ∧ j = 7) ∨ (q = p ∧ j = 8) ∨ (q = p ∧ j = 9) ∨ q = (p + 1) ∨ q = (p + 2) ∨ q = (p + 3) ∨ q = (p + 4) ∨ q = (p + 6) ∨ q = (p + 7)) (V := fun q j => q = (p + 1) ∧ Int.toNat (v4_26 * 24) ≤ j ∧ j < Int.toNat (v4_26 * 24) + Int.toNat ((I38 (p + 2) (Int.toNat v4_26)))) FI38 (fun q j h => (Or.inr (Or.inr (Or.inr (Or.inr (Or.inl h.1)))))) p49
                have KFB_I50 := gc_FB_fr KFB_I38 (fun k => p49 (p + 4) k (fun h => absurd h.1 N_p_4__p_1)) (fun k => p49 (p + 3) k (fun h => absurd h.1 N_p_3__p_1))
                have t52 := p49 a1 11 (fun h => absurd h.1 N_a1__p_1)
                have t53 := p49 p 8 (fun h => absurd h.1 N_p__p_1)
                have t54 := p49 p 6 (fun h => absurd h.1 N_p__p_1)
                have t55 := p49 p 7 (fun h => absurd h.1 N_p__p_1)
                have t56 := p49 (p + 2) (Int.toNat v4_26) (fun h => absurd h.1 N_p_2__p_1)
                have f57 := (show 0 ≤ I50 a1 11 ∧ I50 a1 11 ≤ 64 from gc_in hI50 R_a1 rfl rfl)
                have f58 := (show 0 ≤ I50 p 8 ∧ I50 p 8 ≤ 64 from gc_in hI50 R_p rfl rfl)
                have f59 := (show 0 ≤ I50 p 6 ∧ I50 p 6 ≤ 1 from gc_in hI50 R_p rfl rfl)
                have f60 := (show 0 ≤ I50 p 7 ∧ I50 p 7 ≤ 1 from gc_in hI50 R_p rfl rfl)
                show gv_X _ _ (144, [(0, .inr (.inr (some p))), (1, .inr (.inr (some a1))), (2, .inl v2_12), (3, .inl v3_19), (4, .inl v4_26)], [], sh, gc_h sh I50 J25 A)
                refine gv_run 1 true hD (pc' := 145) (lv' := [(0, .inr (.inr (some p))), (1, .inr (.inr (some a1))), (2, .inl v2_12), (3, .inl v3_19), (4, .inl v4_26)]) (st' := [.inr (.inr (some p))]) (h' := gc_h sh I50 J25 A) (C := (True ∧ True)) rfl ⟨trivial, trivial⟩ ?_
                have f62 := (show 0 ≤ I50 p 6 ∧ I50 p 6 ≤ 1 from gc_in hI50 R_p rfl rfl)
                obtain ⟨f61_, hq_f61_, S_f61, R_f61, B_f61, D_f61⟩ := gc_sw (p := p) (d := 6) (s := 1) (z := I50 p 6) (show 0 ≤ I50 p 6 ∧ I50 p 6 ≤ 1 from gc_in hI50 R_p rfl rfl) S_p_6 R_p_6 B_p_6 S_p_7 R_p_7 B_p_7
                refine gv_get hD rfl rfl S_p ⟨by decide, B_p⟩ (gc_hS (n := 6) S_p rfl hq_f61_) ?_
                show gv_X _ _ (148, [(0, .inr (.inr (some p))), (1, .inr (.inr (some a1))), (2, .inl v2_12), (3, .inl v3_19), (4, .inl v4_26)], [.inr (.inr (some f61_))], sh, gc_h sh I50 J25 A)
                refine gv_run 2 true hD (pc' := 150) (lv' := [(0, .inr (.inr (some p))), (1, .inr (.inr (some a1))), (2, .inl v2_12), (3, .inl v3_19), (4, .inl v4_26)]) (st' := [.inr (.inr (some p)), .inl 0, .inr (.inr (some f61_))]) (h' := gc_h sh I50 J25 A) (C := ((True ∧ True) ∧ True)) rfl ⟨⟨trivial, trivial⟩, trivial⟩ ?_
                refine gv_get hD rfl rfl S_p ⟨by decide, B_p⟩ (gc_hA S_p rfl A_p_2) ?_
                show gv_X _ _ (153, [(0, .inr (.inr (some p))), (1, .inr (.inr (some a1))), (2, .inl v2_12), (3, .inl v3_19), (4, .inl v4_26)], [.inr (.inr (some (p + 2))), .inl 0, .inr (.inr (some f61_))], sh, gc_h sh I50 J25 A)
                refine gv_run 1 true hD (pc' := 155) (lv' := [(0, .inr (.inr (some p))), (1, .inr (.inr (some a1))), (2, .inl v2_12), (3, .inl v3_19), (4, .inl v4_26)]) (st' := [.inl v4_26, .inr (.inr (some (p + 2))), .inl 0, .inr (.inr (some f61_))]) (h' := gc_h sh I50 J25 A) (C := (True ∧ True)) rfl ⟨trivial, trivial⟩ ?_
                have f63 := (show (-1) ≤ I50 (p + 2) (Int.toNat v4_26) ∧ I50 (p + 2) (Int.toNat v4_26) ≤ 24 from gc_in hI50 R_p_2 rfl rfl)
                refine gv_iald hD rfl S_p_2 rfl ⟨by decide, B_p_2⟩ ⟨by exact gz_m 52 (by omega), by exact gz_m 53 (by omega)⟩ (gc_iI S_p_2 rfl) ?_
                show gv_X _ _ (156, [(0, .inr (.inr (some p))), (1, .inr (.inr (some a1))), (2, .inl v2_12), (3, .inl v3_19), (4, .inl v4_26)], [.inl (I50 (p + 2) (Int.toNat v4_26)), .inl 0, .inr (.inr (some f61_))], sh, gc_h sh I50 J25 A)
                obtain ⟨r64, h64, E64, P64⟩ := d_X2_hash (ws0 := ws0) (tb := tb) hws htb sh ro I50 J25 A hI50  24 f61_ 0 ((I50 (p + 2) (Int.toNat v4_26)))  S_f61 R_f61 B_f61 (by decide)  ⟨by exact gz_m 54 (by omega), by exact gz_m 55 (by omega)⟩ ⟨by exact gz_m 56 (by omega), by exact gz_m 57 (by omega)⟩ (by exact gz_m 58 (by omega)) 
                obtain ⟨rfl, ⟨z64, rfl, q64⟩⟩ := P64
                refine gv_callS hD rfl (As := [.inr (.inr (some f61_)), .inl 0, .inl (I50 (p + 2) (Int.toNat v4_26))]) (st := []) rfl (gc_lS2 hws rfl) (Nat.le_of_ble_eq_true rfl) (gz_Ev_mono (d := 1) (by decide) E64) ?_
                show gv_X _ _ (159, [(0, .inr (.inr (some p))), (1, .inr (.inr (some a1))), (2, .inl v2_12), (3, .inl v3_19), (4, .inl v4_26)], [.inl z64], sh, gc_h sh I50 J25 A)
                refine gv_run 2 true hD (pc' := 162) (lv' := [(6, .inl z64), (0, .inr (.inr (some p))), (1, .inr (.inr (some a1))), (2, .inl v2_12), (3, .inl v3_19), (4, .inl v4_26)]) (st' := [.inr (.inr (some p))]) (h' := gc_h sh I50 J25 A) (C := ((True ∧ True) ∧ True)) rfl ⟨⟨trivial, trivial⟩, trivial⟩ ?_
                refine gv_get hD rfl rfl S_p ⟨by decide, B_p⟩ (gc_hA S_p rfl A_p_3) ?_
                show gv_X _ _ (165, [(6, .inl z64), (0, .inr (.inr (some p))), (1, .inr (.inr (some a1))), (2, .inl v2_12), (3, .inl v3_19), (4, .inl v4_26)], [.inr (.inr (some (p + 3)))], sh, gc_h sh I50 J25 A)
                refine gv_run 2 true hD (pc' := 168) (lv' := [(6, .inl z64), (0, .inr (.inr (some p))), (1, .inr (.inr (some a1))), (2, .inl v2_12), (3, .inl v3_19), (4, .inl v4_26)]) (st' := [.inr (.inr (some p)), .inl v4_26, .inr (.inr (some (p + 3)))]) (h' := gc_h sh I50 J25 A) (C := ((True ∧ True) ∧ True)) rfl ⟨⟨trivial, trivial⟩, trivial⟩ ?_
                refine gv_get hD rfl rfl S_p ⟨by decide, B_p⟩ (gc_hA S_p rfl A_p_4) ?_
                show gv_X _ _ (171, [(6, .inl z64), (0, .inr (.inr (some p))), (1, .inr (.inr (some a1))), (2, .inl v2_12), (3, .inl v3_19), (4, .inl v4_26)], [.inr (.inr (some (p + 4))), .inl v4_26, .inr (.inr (some (p + 3)))], sh, gc_h sh I50 J25 A)
                refine gv_run 1 true hD (pc' := 173) (lv' := [(6, .inl z64), (0, .inr (.inr (some p))), (1, .inr (.inr (some a1))), (2, .inl v2_12), (3, .inl v3_19), (4, .inl v4_26)]) (st' := [.inl z64, .inr (.inr (some (p + 4))), .inl v4_26, .inr (.inr (some (p + 3)))]) (h' := gc_h sh I50 J25 A) (C := (True ∧ True)) rfl ⟨trivial, trivial⟩ ?_
                have f65 := (show (-1) ≤ I50 (p + 4) (Int.toNat z64) ∧ I50 (p + 4) (Int.toNat z64) ≤ 1535 from gc_in hI50 R_p_4 rfl rfl)
                refine gv_iald hD rfl S_p_4 rfl ⟨by decide, B_p_4⟩ ⟨by exact gz_m 59 (by omega), by exact gz_m 60 (by omega)⟩ (gc_iI S_p_4 rfl) ?_
                show gv_X _ _ (174, [(6, .inl z64), (0, .inr (.inr (some p))), (1, .inr (.inr (some a1))), (2, .inl v2_12), (3, .inl v3_19), (4, .inl v4_26)], [.inl (I50 (p + 4) (Int.toNat z64)), .inl v4_26, .inr (.inr (some (p + 3)))], sh, gc_h sh I50 J25 A)
                have t66 := (KFB_I50).1 (Int.toNat z64) (by exact gz_m 61 (by omega))
                refine gv_iast hD rfl S_p_3 ⟨by decide, B_p_3⟩ ⟨by exact gz_m 62 (by omega), by exact gz_m 63 (by omega)⟩ ?_
                refine gc_st hI50 S_p_3 rfl R_p_3 (lo := (-1)) (hi := 1535) rfl rfl (by exact gz_m 64 (by omega)) (by exact gz_m 65 (by omega)) (fun I67 hI67 q68 p68 => ?_)
                have FI67 := gc_frs (W := fun q j => (q = p ∧ j = 6) ∨ (q = p ∧ j = 7) ∨ (q = p ∧ j = 8) ∨ (q = p ∧ j = 9) ∨ q = (p + 1) ∨ q = (p + 2) ∨ q = (p + 3) ∨ q = (p + 4) ∨ q = (p + 6) ∨ q = (p + 7)) FI50 (Or.inr (Or.inr (Or.inr (Or.inr (Or.inr (Or.inr (Or.inl rfl))))))) p68
                have t69 := p68 a1 11 (fun h => absurd h.1 N_a1__p_3)
                have t70 := p68 p 8 (fun h => absurd h.1 N_p__p_3)
                have t71 := p68 p 6 (fun h => absurd h.1 N_p__p_3)
                have t72 := p68 p 7 (fun h => absurd h.1 N_p__p_3)
                have t73 := p68 (p + 2) (Int.toNat v4_26) (fun h => absurd h.1 N_p_2__p_3)
                have KFB_I67 : gc_FB p (24 * I a1 11) I67 := gc_FB_c KFB_I50 p68 (by exact gz_m 66 (by omega))
                show gv_X _ _ (175, [(6, .inl z64), (0, .inr (.inr (some p))), (1, .inr (.inr (some a1))), (2, .inl v2_12), (3, .inl v3_19), (4, .inl v4_26)], [], sh, gc_h sh I67 J25 A)
                refine gv_run 1 true hD (pc' := 176) (lv' := [(6, .inl z64), (0, .inr (.inr (some p))), (1, .inr (.inr (some a1))), (2, .inl v2_12), (3, .inl v3_19), (4, .inl v4_26)]) (st' := [.inr (.inr (some p))]) (h' := gc_h sh I67 J25 A) (C := (True ∧ True)) rfl ⟨trivial, trivial⟩ ?_
                refine gv_get hD rfl rfl S_p ⟨by decide, B_p⟩ (gc_hA S_p rfl A_p_4) ?_
                show gv_X _ _ (179, [(6, .inl z64), (0, .inr (.inr (some p))), (1, .inr (.inr (some a1))), (2, .inl v2_12), (3, .inl v3_19), (4, .inl v4_26)], [.inr (.inr (some (p + 4)))], sh, gc_h sh I67 J25 A)
                refine gv_run 2 true hD (pc' := 183) (lv' := [(6, .inl z64), (0, .inr (.inr (some p))), (1, .inr (.inr (some a1))), (2, .inl v2_12), (3, .inl v3_19), (4, .inl v4_26)]) (st' := [.inl v4_26, .inl z64, .inr (.inr (some (p + 4)))]) (h' := gc_h sh I67 J25 A) (C := ((True ∧ True) ∧ True)) rfl ⟨⟨trivial, trivial⟩, trivial⟩ ?_
                refine gv_iast hD rfl S_p_4 ⟨by decide, B_p_4⟩ ⟨by exact gz_m 67 (by omega), by exact gz_m 68 (by omega)⟩ ?_
                refine gc_st hI67 S_p_4 rfl R_p_4 (lo := (-1)) (hi := 1535) rfl rfl (by exact gz_m 69 (by omega)) (by exact gz_m 70 (by omega)) (fun I74 hI74 q75 p75 => ?_)
                have FI74 := gc_frs (W := fun q j => (q = p ∧ j = 6) ∨ (q = p ∧ j = 7) ∨ (q = p ∧ j = 8) ∨ (q = p ∧ j = 9) ∨ q = (p + 1) ∨ q = (p + 2) ∨ q = (p + 3) ∨ q = (p + 4) ∨ q = (p + 6) ∨ q = (p + 7)) FI67 (Or.inr (Or.inr (Or.inr (Or.inr (Or.inr (Or.inr (Or.inr (Or.inl rfl)))))))) p75
                have t76 := p75 a1 11 (fun h => absurd h.1 N_a1__p_4)
                have t77 := p75 p 8 (fun h => absurd h.1 N_p__p_4)
                have t78 := p75 p 6 (fun h => absurd h.1 N_p__p_4)
                have t79 := p75 p 7 (fun h => absurd h.1 N_p__p_4)
                have t80 := p75 (p + 2) (Int.toNat v4_26) (fun h => absurd h.1 N_p_2__p_4)
                have KFB_I74 : gc_FB p (24 * I a1 11) I74 := gc_FB_h KFB_I67 p75 (by exact gz_m 71 (by omega))
                show gv_X _ _ (184, [(6, .inl z64), (0, .inr (.inr (some p))), (1, .inr (.inr (some a1))), (2, .inl v2_12), (3, .inl v3_19), (4, .inl v4_26)], [], sh, gc_h sh I74 J25 A)
                refine gv_pick [1, 2, 3, 4] rfl ?_
                exact L184 I74 J25 hI74 FI74 FJ25 KFB_I74 (by exact gz_m 72 (by omega))
            refine gv_run 1 true hD (pc' := 67) (lv' := [(0, .inr (.inr (some p))), (1, .inr (.inr (some a1))), (2, .inl v2_12), (3, .inl v3_19)]) (st' := [.inl v3_19]) (h' := gc_h sh I17 J18 A) (C := (True ∧ True)) rfl ⟨trivial, trivial⟩ ?_
            refine gv_if_lt (t := 190) hD rfl rfl ⟨by exact gz_m 73 (by omega), by exact gz_m 74 (by omega)⟩ (fun c81 => ?_) (fun c81 => ?_)
            · show gv_X _ _ (190, [(0, .inr (.inr (some p))), (1, .inr (.inr (some a1))), (2, .inl v2_12), (3, .inl v3_19)], [], sh, gc_h sh I17 J18 A)
              refine gv_run 2 true hD (pc' := 54) (lv' := [(2, .inl (v2_12 + (-1))), (0, .inr (.inr (some p))), (1, .inr (.inr (some a1))), (3, .inl v3_19)]) (st' := []) (h' := gc_h sh I17 J18 A) (C := ((True ∧ True) ∧ True)) rfl ⟨⟨trivial, trivial⟩, trivial⟩ ?_
              refine gv_pick [1, 2, 0] rfl ?_
              exact ih54 I17 J18 ((v2_12 + (-1))) (by exact gz_m 75 (by omega)) hI17 FI17 FJ18 KFB_I17 (by exact gz_m 76 (by omega))
            · show gv_X _ _ (70, [(0, .inr (.inr (some p))), (1, .inr (.inr (some a1))), (2, .inl v2_12), (3, .inl v3_19)], [], sh, gc_h sh I17 J18 A)
              refine gv_run 7 true hD (pc' := 79) (lv' := [(4, .inl ((v2_12 * 24) + v3_19)), (0, .inr (.inr (some p))), (1, .inr (.inr (some a1))), (2, .inl v2_12), (3, .inl v3_19)]) (st' := [.inr (.inr (some p))]) (h' := gc_h sh I17 J18 A) (C := (((((((True ∧ True) ∧ True) ∧ True) ∧ True) ∧ True) ∧ True) ∧ True)) rfl ⟨⟨⟨⟨⟨⟨⟨trivial, trivial⟩, trivial⟩, trivial⟩, trivial⟩, trivial⟩, trivial⟩, trivial⟩ ?_
              refine gv_run 3 true hD (pc' := 82) (lv' := [(4, .inl ((v2_12 * 24) + v3_19)), (0, .inr (.inr (some p))), (1, .inr (.inr (some a1))), (2, .inl v2_12), (3, .inl v3_19)]) (st' := [.inl v3_19, .inl v2_12, .inr (.inr (some a1)), .inr (.inr (some p))]) (h' := gc_h sh I17 J18 A) (C := (((True ∧ True) ∧ True) ∧ True)) rfl ⟨⟨⟨trivial, trivial⟩, trivial⟩, trivial⟩ ?_
              obtain ⟨r82, h82, E82, P82⟩ := d_X2_join (ws0 := ws0) (tb := tb) hws htb sh ro I17 J18 A hI17 p a1 v2_12 v3_19 hp h_a1 G_a1  ⟨by exact gz_m 77 (by omega), by exact gz_m 78 (by omega)⟩ ⟨by exact gz_m 79 (by omega), by exact gz_m 80 (by omega)⟩ (by exact gz_m 81 (by omega)) 
              obtain ⟨I83, J84, rfl, hI83, g82, k82, ⟨z82, rfl, q82⟩⟩ := P82
              have FI83 := gc_frc (W := fun q j => (q = p ∧ j = 6) ∨ (q = p ∧ j = 7) ∨ (q = p ∧ j = 8) ∨ (q = p ∧ j = 9) ∨ q = (p + 1) ∨ q = (p + 2) ∨ q = (p + 3) ∨ q = (p + 4) ∨ q = (p + 6) ∨ q = (p + 7)) (V := fun q j => q = (p + 6) ∨ q = (p + 7)) FI17 (fun q j h => (h.elim (fun h => (Or.inr (Or.inr (Or.inr (Or.inr (Or.inr (Or.inr (Or.inr (Or.inr (Or.inl h)))))))))) (fun h => (Or.inr (Or.inr (Or.inr (Or.inr (Or.inr (Or.inr (Or.inr (Or.inr (Or.inr h)))))))))))) g82
              have t85 := (g82 a1 11).resolve_left (fun h => h.elim (fun h => absurd h N_a1__p_6) (fun h => absurd h N_a1__p_7))
              have t86 := (g82 p 8).resolve_left (fun h => h.elim (fun h => absurd h N_p__p_6) (fun h => absurd h N_p__p_7))
              have t87 := (g82 p 6).resolve_left (fun h => h.elim (fun h => absurd h N_p__p_6) (fun h => absurd h N_p__p_7))
              have t88 := (g82 p 7).resolve_left (fun h => h.elim (fun h => absurd h N_p__p_6) (fun h => absurd h N_p__p_7))
              have t89 := (g82 (p + 2) (Int.toNat (((v2_12 * 24) + v3_19)))).resolve_left (fun h => h.elim (fun h => absurd h N_p_2__p_6) (fun h => absurd h N_p_2__p_7))
              obtain rfl : J18 = J84 := funext fun q => funext fun j => ((k82 q j).resolve_left id).symm
              have KFB_I83 := gc_FB_fr KFB_I17 (fun k => (g82 (p + 4) k).resolve_left (fun h => h.elim (fun h => absurd h N_p_4__p_6) (fun h => absurd h N_p_4__p_7))) (fun k => (g82 (p + 3) k).resolve_left (fun h => h.elim (fun h => absurd h N_p_3__p_6) (fun h => absurd h N_p_3__p_7)))
              refine gv_callV hD rfl (As := [.inr (.inr (some a1)), .inl v2_12, .inl v3_19]) (st := []) rfl B_p S_p rfl (gc_lV2 hws rfl) (Nat.le_of_ble_eq_true rfl) (gz_Ev_mono (d := 2) (by decide) E82) ?_
              show gv_X _ _ (85, [(4, .inl ((v2_12 * 24) + v3_19)), (0, .inr (.inr (some p))), (1, .inr (.inr (some a1))), (2, .inl v2_12), (3, .inl v3_19)], [.inl z82], sh, gc_h sh I83 J18 A)
              refine gv_run 2 true hD (pc' := 88) (lv' := [(5, .inl z82), (4, .inl ((v2_12 * 24) + v3_19)), (0, .inr (.inr (some p))), (1, .inr (.inr (some a1))), (2, .inl v2_12), (3, .inl v3_19)]) (st' := [.inr (.inr (some p))]) (h' := gc_h sh I83 J18 A) (C := ((True ∧ True) ∧ True)) rfl ⟨⟨trivial, trivial⟩, trivial⟩ ?_
              refine gv_get hD rfl rfl S_p ⟨by decide, B_p⟩ (gc_hA S_p rfl A_p_2) ?_
              show gv_X _ _ (91, [(5, .inl z82), (4, .inl ((v2_12 * 24) + v3_19)), (0, .inr (.inr (some p))), (1, .inr (.inr (some a1))), (2, .inl v2_12), (3, .inl v3_19)], [.inr (.inr (some (p + 2)))], sh, gc_h sh I83 J18 A)
              refine gv_run 2 true hD (pc' := 95) (lv' := [(5, .inl z82), (4, .inl ((v2_12 * 24) + v3_19)), (0, .inr (.inr (some p))), (1, .inr (.inr (some a1))), (2, .inl v2_12), (3, .inl v3_19)]) (st' := [.inl z82, .inl ((v2_12 * 24) + v3_19), .inr (.inr (some (p + 2)))]) (h' := gc_h sh I83 J18 A) (C := ((True ∧ True) ∧ True)) rfl ⟨⟨trivial, trivial⟩, trivial⟩ ?_
              refine gv_if_le (t := 108) hD rfl rfl ⟨by exact gz_m 82 (by omega), by exact gz_m 83 (by omega)⟩ (fun c90 => ?_) (fun c90 => ?_)
              · show gv_X _ _ (108, [(5, .inl z82), (4, .inl ((v2_12 * 24) + v3_19)), (0, .inr (.inr (some p))), (1, .inr (.inr (some a1))), (2, .inl v2_12), (3, .inl v3_19)], [.inl ((v2_12 * 24) + v3_19), .inr (.inr (some (p + 2)))], sh, gc_h sh I83 J18 A)
                refine gv_run 1 true hD (pc' := 109) (lv' := [(5, .inl z82), (4, .inl ((v2_12 * 24) + v3_19)), (0, .inr (.inr (some p))), (1, .inr (.inr (some a1))), (2, .inl v2_12), (3, .inl v3_19)]) (st' := [.inl (-1), .inl ((v2_12 * 24) + v3_19), .inr (.inr (some (p + 2)))]) (h' := gc_h sh I83 J18 A) (C := (True ∧ True)) rfl ⟨trivial, trivial⟩ ?_
                refine gv_pick [2, 3, 4, 5, 1] rfl ?_
                exact L109 I83 J18 (((v2_12 * 24) + v3_19)) (((v2_12 * 24) + v3_19)) (-1) hI83 FI83 FJ18 KFB_I83 (by exact gz_m 84 (by omega))
              · show gv_X _ _ (98, [(5, .inl z82), (4, .inl ((v2_12 * 24) + v3_19)), (0, .inr (.inr (some p))), (1, .inr (.inr (some a1))), (2, .inl v2_12), (3, .inl v3_19)], [.inl ((v2_12 * 24) + v3_19), .inr (.inr (some (p + 2)))], sh, gc_h sh I83 J18 A)
                refine gv_run 3 true hD (pc' := 102) (lv' := [(5, .inl z82), (4, .inl ((v2_12 * 24) + v3_19)), (0, .inr (.inr (some p))), (1, .inr (.inr (some a1))), (2, .inl v2_12), (3, .inl v3_19)]) (st' := [.inl z82, .inr (.inr (some a1)), .inr (.inr (some p)), .inl ((v2_12 * 24) + v3_19), .inr (.inr (some (p + 2)))]) (h' := gc_h sh I83 J18 A) (C := (((True ∧ True) ∧ True) ∧ True)) rfl ⟨⟨⟨trivial, trivial⟩, trivial⟩, trivial⟩ ?_
                obtain ⟨r91, h91, E91, P91⟩ := d_X2_soundAll (ws0 := ws0) (tb := tb) hws htb sh ro I83 J18 A hI83 p a1 z82 hp h_a1 G_a1  ⟨by exact gz_m 85 (by omega), by exact gz_m 86 (by omega)⟩ (gc_sc_fr x0 (fun k => (FI83 (a1 + 10) k).resolve_left (by exact gz_m 87 (by omega)))) (by exact gz_m 88 (by omega)) 
                obtain ⟨I92, J93, rfl, hI92, g91, k91, ⟨z91, rfl, q91⟩⟩ := P91
                have FI92 := gc_frc (W := fun q j => (q = p ∧ j = 6) ∨ (q = p ∧ j = 7) ∨ (q = p ∧ j = 8) ∨ (q = p ∧ j = 9) ∨ q = (p + 1) ∨ q = (p + 2) ∨ q = (p + 3) ∨ q = (p + 4) ∨ q = (p + 6) ∨ q = (p + 7)) (V := fun q j => (q = p ∧ j = 6) ∨ (q = p ∧ j = 7) ∨ q = (p + 6) ∨ q = (p + 7)) FI83 (fun q j h => (h.elim (fun h => (Or.inl h)) (fun h => (h.elim (fun h => (Or.inr (Or.inl h))) (fun h => (h.elim (fun h => (Or.inr (Or.inr (Or.inr (Or.inr (Or.inr (Or.inr (Or.inr (Or.inr (Or.inl h)))))))))) (fun h => (Or.inr (Or.inr (Or.inr (Or.inr (Or.inr (Or.inr (Or.inr (Or.inr (Or.inr h)))))))))))))))) g91
                have t94 := (g91 a1 11).resolve_left (fun h => h.elim (fun h => absurd h.2 (by decide)) (fun h => h.elim (fun h => absurd h.2 (by decide)) (fun h => h.elim (fun h => absurd h N_a1__p_6) (fun h => absurd h N_a1__p_7))))
                have t95 := (g91 p 8).resolve_left (fun h => h.elim (fun h => absurd h.2 (by decide)) (fun h => h.elim (fun h => absurd h.2 (by decide)) (fun h => h.elim (fun h => absurd h N_p__p_6) (fun h => absurd h N_p__p_7))))
                have t96 := (g91 (p + 2) (Int.toNat (((v2_12 * 24) + v3_19)))).resolve_left (fun h => h.elim (fun h => absurd h.1 N_p_2__p) (fun h => h.elim (fun h => absurd h.1 N_p_2__p) (fun h => h.elim (fun h => absurd h N_p_2__p_6) (fun h => absurd h N_p_2__p_7))))
                have f97 := (show 0 ≤ I92 p 6 ∧ I92 p 6 ≤ 1 from gc_in hI92 R_p rfl rfl)
                have f98 := (show 0 ≤ I92 p 7 ∧ I92 p 7 ≤ 1 from gc_in hI92 R_p rfl rfl)
                obtain rfl : J18 = J93 := funext fun q => funext fun j => ((k91 q j).resolve_left id).symm
                have KFB_I92 := gc_FB_fr KFB_I83 (fun k => (g91 (p + 4) k).resolve_left (fun h => h.elim (fun h => absurd h.1 N_p_4__p) (fun h => h.elim (fun h => absurd h.1 N_p_4__p) (fun h => h.elim (fun h => absurd h N_p_4__p_6) (fun h => absurd h N_p_4__p_7))))) (fun k => (g91 (p + 3) k).resolve_left (fun h => h.elim (fun h => absurd h.1 N_p_3__p) (fun h => h.elim (fun h => absurd h.1 N_p_3__p) (fun h => h.elim (fun h => absurd h N_p_3__p_6) (fun h => absurd h N_p_3__p_7)))))
                refine gv_callV hD rfl (As := [.inr (.inr (some a1)), .inl z82]) (st := [.inl ((v2_12 * 24) + v3_19), .inr (.inr (some (p + 2)))]) rfl B_p S_p rfl (gc_lV2 hws rfl) (Nat.le_of_ble_eq_true rfl) (gz_Ev_mono (d := 4) (by decide) E91) ?_
                show gv_X _ _ (105, [(5, .inl z82), (4, .inl ((v2_12 * 24) + v3_19)), (0, .inr (.inr (some p))), (1, .inr (.inr (some a1))), (2, .inl v2_12), (3, .inl v3_19)], [.inl z91, .inl ((v2_12 * 24) + v3_19), .inr (.inr (some (p + 2)))], sh, gc_h sh I92 J18 A)
                refine gv_run 1 true hD (pc' := 109) (lv' := [(5, .inl z82), (4, .inl ((v2_12 * 24) + v3_19)), (0, .inr (.inr (some p))), (1, .inr (.inr (some a1))), (2, .inl v2_12), (3, .inl v3_19)]) (st' := [.inl z91, .inl ((v2_12 * 24) + v3_19), .inr (.inr (some (p + 2)))]) (h' := gc_h sh I92 J18 A) (C := (True ∧ True)) rfl ⟨trivial, trivial⟩ ?_
                refine gv_pick [2, 3, 4, 5, 1] rfl ?_
                exact L109 I92 J18 (((v2_12 * 24) + v3_19)) (((v2_12 * 24) + v3_19)) z91 hI92 FI92 FJ18 KFB_I92 (by exact gz_m 89 (by omega))
        refine gv_run 1 true hD (pc' := 55) (lv' := [(0, .inr (.inr (some p))), (1, .inr (.inr (some a1))), (2, .inl v2_12)]) (st' := [.inl v2_12]) (h' := gc_h sh I10 J11 A) (C := (True ∧ True)) rfl ⟨trivial, trivial⟩ ?_
        refine gv_if_lt (t := 196) hD rfl rfl ⟨by exact gz_m 90 (by omega), by exact gz_m 91 (by omega)⟩ (fun c99 => ?_) (fun c99 => ?_)
        · show gv_X _ _ (196, [(0, .inr (.inr (some p))), (1, .inr (.inr (some a1))), (2, .inl v2_12)], [], sh, gc_h sh I10 J11 A)
          exact gv_vret hD rfl ⟨I10, J11, rfl, hI10, FI10, FJ11, ⟨rfl, KFB_I10, by exact gz_m 92 (by omega), by exact gz_m 93 (by omega)⟩⟩
        · show gv_X _ _ (58, [(0, .inr (.inr (some p))), (1, .inr (.inr (some a1))), (2, .inl v2_12)], [], sh, gc_h sh I10 J11 A)
          refine gv_run 2 true hD (pc' := 60) (lv' := [(0, .inr (.inr (some p))), (1, .inr (.inr (some a1))), (2, .inl v2_12)]) (st' := [.inl v2_12, .inr (.inr (some a1))]) (h' := gc_h sh I10 J11 A) (C := ((True ∧ True) ∧ True)) rfl ⟨⟨trivial, trivial⟩, trivial⟩ ?_
          obtain ⟨r100, h100, E100, P100⟩ := d_X11_cellsOf (ws0 := ws0) (tb := tb) hws htb sh ro I10 J11 A hI10 a1 v2_12 h_a1   ⟨by exact gz_m 94 (by omega), by exact gz_m 95 (by omega)⟩  
          obtain ⟨rfl, ⟨z100, rfl, q100⟩⟩ := P100
          refine gv_callV hD rfl (As := [.inl v2_12]) (st := []) rfl B_a1 S_a1 rfl (gc_lV2 hws rfl) (Nat.le_of_ble_eq_true rfl) (gz_Ev_mono (d := 2) (by decide) E100) ?_
          show gv_X _ _ (63, [(0, .inr (.inr (some p))), (1, .inr (.inr (some a1))), (2, .inl v2_12)], [.inl z100], sh, gc_h sh I10 J11 A)
          refine gv_run 3 true hD (pc' := 66) (lv' := [(3, .inl (z100 - 1)), (0, .inr (.inr (some p))), (1, .inr (.inr (some a1))), (2, .inl v2_12)]) (st' := []) (h' := gc_h sh I10 J11 A) (C := (((True ∧ True) ∧ True) ∧ True)) rfl ⟨⟨⟨trivial, trivial⟩, trivial⟩, trivial⟩ ?_
          refine gv_pick [1, 2, 3, 0] rfl ?_
          exact L66 _ I10 J11 (z100 - 1) (Nat.lt_succ_self _) hI10 FI10 FJ11 KFB_I10 (by exact gz_m 96 (by omega))
    refine gv_run 2 true hD (pc' := 25) (lv' := [(0, .inr (.inr (some p))), (1, .inr (.inr (some a1)))]) (st' := [.inr (.inr (some a1)), .inr (.inr (some p))]) (h' := gc_h sh I J A) (C := ((True ∧ True) ∧ True)) rfl ⟨⟨trivial, trivial⟩, trivial⟩ ?_
    have f101 := (show 0 ≤ I a1 11 ∧ I a1 11 ≤ 64 from gc_in hI R_a1 rfl rfl)
    refine gv_get hD rfl rfl S_a1 ⟨by decide, B_a1⟩ (gc_hI S_a1 rfl) ?_
    show gv_X _ _ (28, [(0, .inr (.inr (some p))), (1, .inr (.inr (some a1)))], [.inl (I a1 11), .inr (.inr (some p))], sh, gc_h sh I J A)
    refine gv_put hD rfl rfl S_p ⟨by decide, B_p⟩ rfl trivial ?_
    refine gc_st (k := 8) hI S_p rfl R_p (lo := 0) (hi := 64) rfl rfl (by exact gz_m 97 (by omega)) (by exact gz_m 98 (by omega)) (fun I102 hI102 q103 p103 => ?_)
    have FI102 := gc_frs (W := fun q j => (q = p ∧ j = 6) ∨ (q = p ∧ j = 7) ∨ (q = p ∧ j = 8) ∨ (q = p ∧ j = 9) ∨ q = (p + 1) ∨ q = (p + 2) ∨ q = (p + 3) ∨ q = (p + 4) ∨ q = (p + 6) ∨ q = (p + 7)) FI (Or.inr (Or.inr (Or.inl ⟨rfl, rfl⟩))) p103
    have t104 := p103 a1 11 (fun h => absurd h.2 (by decide))
    have t105 := p103 p 6 (fun h => absurd h.2 (by decide))
    have t106 := p103 p 7 (fun h => absurd h.2 (by decide))
    have f107 := (show 0 ≤ I102 p 8 ∧ I102 p 8 ≤ 64 from gc_in hI102 R_p rfl rfl)
    show gv_X _ _ (31, [(0, .inr (.inr (some p))), (1, .inr (.inr (some a1)))], [], sh, gc_h sh I102 J A)
    refine gv_run 2 true hD (pc' := 33) (lv' := [(0, .inr (.inr (some p))), (1, .inr (.inr (some a1)))]) (st' := [.inr (.inr (some a1)), .inr (.inr (some p))]) (h' := gc_h sh I102 J A) (C := ((True ∧ True) ∧ True)) rfl ⟨⟨trivial, trivial⟩, trivial⟩ ?_
    have f108 := (show 0 ≤ I102 a1 6 ∧ I102 a1 6 ≤ 24 from gc_in hI102 R_a1 rfl rfl)
    refine gv_get hD rfl rfl S_a1 ⟨by decide, B_a1⟩ (gc_hI S_a1 rfl) ?_
    show gv_X _ _ (36, [(0, .inr (.inr (some p))), (1, .inr (.inr (some a1)))], [.inl (I102 a1 6), .inr (.inr (some p))], sh, gc_h sh I102 J A)
    refine gv_put hD rfl rfl S_p ⟨by decide, B_p⟩ rfl trivial ?_
    refine gc_st (k := 9) hI102 S_p rfl R_p (lo := 0) (hi := 24) rfl rfl (by exact gz_m 99 (by omega)) (by exact gz_m 100 (by omega)) (fun I109 hI109 q110 p110 => ?_)
    have FI109 := gc_frs (W := fun q j => (q = p ∧ j = 6) ∨ (q = p ∧ j = 7) ∨ (q = p ∧ j = 8) ∨ (q = p ∧ j = 9) ∨ q = (p + 1) ∨ q = (p + 2) ∨ q = (p + 3) ∨ q = (p + 4) ∨ q = (p + 6) ∨ q = (p + 7)) FI102 (Or.inr (Or.inr (Or.inr (Or.inl ⟨rfl, rfl⟩)))) p110
    have t111 := p110 a1 11 (fun h => absurd h.2 (by decide))
    have t112 := p110 p 8 (fun h => absurd h.2 (by decide))
    have t113 := p110 p 6 (fun h => absurd h.2 (by decide))
    have t114 := p110 p 7 (fun h => absurd h.2 (by decide))
    show gv_X _ _ (39, [(0, .inr (.inr (some p))), (1, .inr (.inr (some a1)))], [], sh, gc_h sh I109 J A)
    refine gv_run 1 true hD (pc' := 40) (lv' := [(0, .inr (.inr (some p))), (1, .inr (.inr (some a1)))]) (st' := [.inr (.inr (some p))]) (h' := gc_h sh I109 J A) (C := (True ∧ True)) rfl ⟨trivial, trivial⟩ ?_
    refine gv_get hD rfl rfl S_p ⟨by decide, B_p⟩ (gc_hA S_p rfl A_p_4) ?_
    show gv_X _ _ (43, [(0, .inr (.inr (some p))), (1, .inr (.inr (some a1)))], [.inr (.inr (some (p + 4)))], sh, gc_h sh I109 J A)
    refine gv_run 1 true hD (pc' := 44) (lv' := [(0, .inr (.inr (some p))), (1, .inr (.inr (some a1)))]) (st' := [.inl (-1), .inr (.inr (some (p + 4)))]) (h' := gc_h sh I109 J A) (C := (True ∧ True)) rfl ⟨trivial, trivial⟩ ?_
    obtain ⟨I116, E115, hI116, g115, q115⟩ := gj_fill (ws0 := ws0) (tb := tb) sh ro I109 J A hI109 (p + 4) 512 (-1) S_p_4 B_p_4 (by decide) ⟨by exact gz_m 101 (by omega), by exact gz_m 102 (by omega)⟩ (fun k => by rw [R_p_4]; exact ⟨by show (-1) ≤ _; exact gz_m 103 (by omega), by show _ ≤ 1535; exact gz_m 104 (by omega)⟩)
    refine gv_callS hD rfl (As := [.inr (.inr (some (p + 4))), .inl (-1)]) (st := []) rfl (gc_lS2 hws rfl) (Nat.le_of_ble_eq_true rfl) (gz_Ev_mono (d := 1) (by decide) E115) ?_
    have FI116 := gc_frc (W := fun q j => (q = p ∧ j = 6) ∨ (q = p ∧ j = 7) ∨ (q = p ∧ j = 8) ∨ (q = p ∧ j = 9) ∨ q = (p + 1) ∨ q = (p + 2) ∨ q = (p + 3) ∨ q = (p + 4) ∨ q = (p + 6) ∨ q = (p + 7)) (V := fun q j => q = (p + 4)) FI109 (fun q j h => (Or.inr (Or.inr (Or.inr (Or.inr (Or.inr (Or.inr (Or.inr (Or.inl h))))))))) g115
    have KFB_I116 : gc_FB p (24 * I a1 11) I116 := gc_FB_fill x2 (by exact gz_m 105 (by omega)) (by exact gz_m 106 (by omega)) q115 (fun k => ((g115 (p + 3) k).resolve_left (by exact gz_m 107 (by omega))).trans (((p110 (p + 3) k (fun h => absurd h.1 (by exact gz_m 108 (by omega)))).trans (p103 (p + 3) k (fun h => absurd h.1 (by exact gz_m 109 (by omega)))))))
    have t118 := (g115 a1 11).resolve_left (fun h => absurd h N_a1__p_4)
    have t119 := (g115 p 8).resolve_left (fun h => absurd h N_p__p_4)
    have t120 := (g115 p 6).resolve_left (fun h => absurd h N_p__p_4)
    have t121 := (g115 p 7).resolve_left (fun h => absurd h N_p__p_4)
    have f122 := (show 0 ≤ I116 a1 11 ∧ I116 a1 11 ≤ 64 from gc_in hI116 R_a1 rfl rfl)
    have f123 := (show 0 ≤ I116 p 8 ∧ I116 p 8 ≤ 64 from gc_in hI116 R_p rfl rfl)
    have f124 := (show 0 ≤ I116 p 6 ∧ I116 p 6 ≤ 1 from gc_in hI116 R_p rfl rfl)
    have f125 := (show 0 ≤ I116 p 7 ∧ I116 p 7 ≤ 1 from gc_in hI116 R_p rfl rfl)
    show gv_X _ _ (47, [(0, .inr (.inr (some p))), (1, .inr (.inr (some a1)))], [], sh, gc_h sh I116 J A)
    refine gv_run 1 true hD (pc' := 48) (lv' := [(0, .inr (.inr (some p))), (1, .inr (.inr (some a1)))]) (st' := [.inr (.inr (some a1))]) (h' := gc_h sh I116 J A) (C := (True ∧ True)) rfl ⟨trivial, trivial⟩ ?_
    have f126 := (show 0 ≤ I116 a1 11 ∧ I116 a1 11 ≤ 64 from gc_in hI116 R_a1 rfl rfl)
    refine gv_get hD rfl rfl S_a1 ⟨by decide, B_a1⟩ (gc_hI S_a1 rfl) ?_
    show gv_X _ _ (51, [(0, .inr (.inr (some p))), (1, .inr (.inr (some a1)))], [.inl (I116 a1 11)], sh, gc_h sh I116 J A)
    refine gv_run 3 true hD (pc' := 54) (lv' := [(2, .inl ((I116 a1 11) - 1)), (0, .inr (.inr (some p))), (1, .inr (.inr (some a1)))]) (st' := []) (h' := gc_h sh I116 J A) (C := (((True ∧ True) ∧ True) ∧ True)) rfl ⟨⟨⟨trivial, trivial⟩, trivial⟩, trivial⟩ ?_
    refine gv_pick [1, 2, 0] rfl ?_
    exact L54 _ I116 J (((I116 a1 11) - 1)) (Nat.lt_succ_self _) hI116 FI116 FJ KFB_I116 (by exact gz_m 110 (by omega))
  refine gv_run 1 true hD (pc' := 1) (lv' := [(0, .inr (.inr (some p))), (1, .inr (.inr (some a1)))]) (st' := [.inr (.inr (some p))]) (h' := gc_h sh I J A) (C := (True ∧ True)) rfl ⟨trivial, trivial⟩ ?_
  have f127 := (show 0 ≤ I p 8 ∧ I p 8 ≤ 64 from gc_in hI R_p rfl rfl)
  refine gv_get hD rfl rfl S_p ⟨by decide, B_p⟩ (gc_hI S_p rfl) ?_
  show gv_X _ _ (4, [(0, .inr (.inr (some p))), (1, .inr (.inr (some a1)))], [.inl (I p 8)], sh, gc_h sh I J A)
  refine gv_run 1 true hD (pc' := 5) (lv' := [(0, .inr (.inr (some p))), (1, .inr (.inr (some a1)))]) (st' := [.inr (.inr (some a1)), .inl (I p 8)]) (h' := gc_h sh I J A) (C := (True ∧ True)) rfl ⟨trivial, trivial⟩ ?_
  have f128 := (show 0 ≤ I a1 11 ∧ I a1 11 ≤ 64 from gc_in hI R_a1 rfl rfl)
  refine gv_get hD rfl rfl S_a1 ⟨by decide, B_a1⟩ (gc_hI S_a1 rfl) ?_
  show gv_X _ _ (8, [(0, .inr (.inr (some p))), (1, .inr (.inr (some a1)))], [.inl (I a1 11), .inl (I p 8)], sh, gc_h sh I J A)
  refine gv_icmp_ne (t := 23) hD rfl rfl ⟨⟨by exact gz_m 111 (by omega), by exact gz_m 112 (by omega)⟩, ⟨by exact gz_m 113 (by omega), by exact gz_m 114 (by omega)⟩⟩ (fun c129 => ?_) (fun c129 => ?_)
  · show gv_X _ _ (23, [(0, .inr (.inr (some p))), (1, .inr (.inr (some a1)))], [], sh, gc_h sh I J A)
    exact L23 (by exact gz_m 115 (by omega))
  · show gv_X _ _ (11, [(0, .inr (.inr (some p))), (1, .inr (.inr (some a1)))], [], sh, gc_h sh I J A)
    refine gv_run 1 true hD (pc' := 12) (lv' := [(0, .inr (.inr (some p))), (1, .inr (.inr (some a1)))]) (st' := [.inr (.inr (some p))]) (h' := gc_h sh I J A) (C := (True ∧ True)) rfl ⟨trivial, trivial⟩ ?_
    have f130 := (show 0 ≤ I p 9 ∧ I p 9 ≤ 24 from gc_in hI R_p rfl rfl)
    refine gv_get hD rfl rfl S_p ⟨by decide, B_p⟩ (gc_hI S_p rfl) ?_
    show gv_X _ _ (15, [(0, .inr (.inr (some p))), (1, .inr (.inr (some a1)))], [.inl (I p 9)], sh, gc_h sh I J A)
    refine gv_run 1 true hD (pc' := 16) (lv' := [(0, .inr (.inr (some p))), (1, .inr (.inr (some a1)))]) (st' := [.inr (.inr (some a1)), .inl (I p 9)]) (h' := gc_h sh I J A) (C := (True ∧ True)) rfl ⟨trivial, trivial⟩ ?_
    have f131 := (show 0 ≤ I a1 6 ∧ I a1 6 ≤ 24 from gc_in hI R_a1 rfl rfl)
    refine gv_get hD rfl rfl S_a1 ⟨by decide, B_a1⟩ (gc_hI S_a1 rfl) ?_
    show gv_X _ _ (19, [(0, .inr (.inr (some p))), (1, .inr (.inr (some a1)))], [.inl (I a1 6), .inl (I p 9)], sh, gc_h sh I J A)
    refine gv_icmp_ne (t := 23) hD rfl rfl ⟨⟨by exact gz_m 116 (by omega), by exact gz_m 117 (by omega)⟩, ⟨by exact gz_m 118 (by omega), by exact gz_m 119 (by omega)⟩⟩ (fun c132 => ?_) (fun c132 => ?_)
    · show gv_X _ _ (23, [(0, .inr (.inr (some p))), (1, .inr (.inr (some a1)))], [], sh, gc_h sh I J A)
      exact L23 (by exact gz_m 120 (by omega))
    · show gv_X _ _ (22, [(0, .inr (.inr (some p))), (1, .inr (.inr (some a1)))], [], sh, gc_h sh I J A)
      exact gv_vret hD rfl ⟨I, J, rfl, hI, FI, FJ, ⟨rfl, (by rw [show I a1 11 = I p 8 from by exact gz_m 121 (by omega)]; exact x2), by exact gz_m 122 (by omega), by exact gz_m 123 (by omega)⟩⟩
