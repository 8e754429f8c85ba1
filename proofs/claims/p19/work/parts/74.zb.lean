def gc_FB (p : Nat) (wb : Int) (I : gr_I) : Prop := (∀ h : Nat, h < 512 → I (p + 4) h < wb) ∧ ∀ d : Nat, I (p + 3) d ≤ 0 ∨ I (p + 3) d < wb
theorem gc_FB_fr {p : Nat} {wb : Int} {I I' : gr_I} (h : gc_FB p wb I) (h4 : ∀ k, I' (p + 4) k = I (p + 4) k) (h3 : ∀ k, I' (p + 3) k = I (p + 3) k) : gc_FB p wb I' := ⟨fun k hk => by rw [h4]; exact h.1 k hk, fun k => by rw [h3]; exact h.2 k⟩
theorem gc_FB_c {p k : Nat} {wb : Int} {I I' : gr_I} (h : gc_FB p wb I) (hp : ∀ q j, ¬ (q = p + 3 ∧ j = k) → I' q j = I q j) (hz : I' (p + 3) k < wb) : gc_FB p wb I' := ⟨fun j hj => by rw [hp _ _ (fun e => by have := e.1; omega)]; exact h.1 j hj, fun j => by
  by_cases e : j = k
  · rw [e]; exact Or.inr hz
  · rw [hp _ _ (fun e2 => e e2.2)]; exact h.2 j⟩
theorem gc_FB_h {p k : Nat} {wb : Int} {I I' : gr_I} (h : gc_FB p wb I) (hp : ∀ q j, ¬ (q = p + 4 ∧ j = k) → I' q j = I q j) (hz : I' (p + 4) k < wb) : gc_FB p wb I' := ⟨fun j hj => by
  by_cases e : j = k
  · rw [e]; exact hz
  · rw [hp _ _ (fun e2 => e e2.2)]; exact h.1 j hj, fun j => by rw [hp _ _ (fun e => by have := e.1; omega)]; exact h.2 j⟩
theorem gc_FB_fill {p : Nat} {wb wb' : Int} {I I' : gr_I} (h : gc_FB p wb I) (hb : wb ≤ wb') (h0 : 0 ≤ wb') (hq : ∀ j, j < 512 → I' (p + 4) j = -1) (h3 : ∀ k, I' (p + 3) k = I (p + 3) k) : gc_FB p wb' I' := ⟨fun k hk => by rw [hq k hk]; omega, fun k => by rw [h3]; exact (h.2 k).imp id (fun e => by omega)⟩
set_option maxHeartbeats 4000000 in
set_option maxRecDepth 100000 in
theorem d_X2_build_b {ws0 : List Cond} {tb : String → gz_T} (hws : gc_Ws ws0) (htb : gc_tbs tb) (sh : gz_Sh) (ro : Nat → Nat) (I : gr_I) (J : gr_J) (A : gc_A) (hI : gc_Inv ro I) (p : Nat) (a1 : Nat) (hp : gc_isForms sh ro A p) (h_a1 : gc_isTongue sh ro A a1) (G_a1 : 144 ≤ a1)  (x0 : gc_sc (a1 + 10) I) (x1 : p = a1 + 17) (x2 : gc_FB p (24 * I p 8) I) (x3 : I p 8 ≤ I a1 11) : ∃ r h', gz_Ev ws0 tb 5 (yX2_build, cX2_build, 7, none) [.inr (.inr (some p)), .inr (.inr (some a1))] sh (gc_h sh I J A) r sh h' 0 0 ∧ (∃ (I' : gr_I) (J' : gr_J), h' = gc_h sh I' J' A ∧ gc_Inv ro I' ∧ (∀ q j : Nat, ((q = p ∧ j = 6) ∨ (q = p ∧ j = 7) ∨ (q = p ∧ j = 8) ∨ (q = p ∧ j = 9) ∨ q = (p + 1) ∨ q = (p + 2) ∨ q = (p + 3) ∨ q = (p + 4) ∨ q = (p + 6) ∨ q = (p + 7)) ∨ I' q j = I q j) ∧ (∀ q j : Nat, (False) ∨ J' q j = J q j) ∧ r = none ∧ (gc_FB p (24 * I a1 11) I') ∧ (I' p 8 = I a1 11)) := by
  have FI : ∀ q j : Nat, ((q = p ∧ j = 6) ∨ (q = p ∧ j = 7) ∨ (q = p ∧ j = 8) ∨ (q = p ∧ j = 9) ∨ q = (p + 1) ∨ q = (p + 2) ∨ q = (p + 3) ∨ q = (p + 4) ∨ q = (p + 6) ∨ q = (p + 7)) ∨ I q j = I q j := fun _ _ => Or.inr rfl
  have FJ : ∀ q j : Nat, (False) ∨ J q j = J q j := fun _ _ => Or.inr rfl
  obtain ⟨S_p, R_p, B_p, A_p_0, S_20, R_20, B_20, A_p_1, S_p_1, R_p_1, B_p_1, A_p_2, S_p_2, R_p_2, B_p_2, A_p_3, S_p_3, R_p_3, B_p_3, A_p_4, S_p_4, R_p_4, B_p_4, A_p_5, S_p_5, R_p_5, B_p_5, S_p_6, R_p_6, B_p_6, S_p_7, R_p_7, B_p_7⟩ := id hp
  obtain ⟨S_a1, R_a1, B_a1, A_a1_0, h_a1_1, A_a1_1, h_a1_3, A_a1_2, S_a1_5, R_a1_5, B_a1_5, A_a1_3, S_a1_6, R_a1_6, B_a1_6, A_a1_4, h_a1_7, A_a1_5, S_a1_9, R_a1_9, B_a1_9, A_a1_7, S_a1_10, R_a1_10, B_a1_10, A_a1_8, h_a1_11, A_a1_9, S_a1_13, R_a1_13, B_a1_13, A_a1_10, S_a1_14, R_a1_14, B_a1_14, A_a1_12, S_a1_15, R_a1_15, B_a1_15, A_a1_14, S_a1_16, R_a1_16, B_a1_16, A_a1_15, h_a1_17⟩ := id h_a1
  obtain ⟨S_a1_1, R_a1_1, B_a1_1, A_a1_1_0, S_a1_1_1, R_a1_1_1, B_a1_1_1, Q0_a1_1, Q1_a1_1, Q2_a1_1⟩ := id h_a1_1
  obtain ⟨S_a1_3, R_a1_3, B_a1_3, A_a1_3_0, S_a1_3_1, R_a1_3_1, B_a1_3_1, Q0_a1_3, Q1_a1_3, Q2_a1_3⟩ := id h_a1_3
  obtain ⟨S_a1_7, R_a1_7, B_a1_7, A_a1_7_0, S_a1_7_1, R_a1_7_1, B_a1_7_1, Q0_a1_7, Q1_a1_7, Q2_a1_7⟩ := id h_a1_7
  obtain ⟨S_a1_11, R_a1_11, B_a1_11, A_a1_11_0, S_a1_11_1, R_a1_11_1, B_a1_11_1, Q0_a1_11, Q1_a1_11, Q2_a1_11⟩ := id h_a1_11
  obtain ⟨S_a1_17, R_a1_17, B_a1_17, A_a1_17_0, S_20, R_20, B_20, A_a1_17_1, S_a1_17_1, R_a1_17_1, B_a1_17_1, A_a1_17_2, S_a1_17_2, R_a1_17_2, B_a1_17_2, A_a1_17_3, S_a1_17_3, R_a1_17_3, B_a1_17_3, A_a1_17_4, S_a1_17_4, R_a1_17_4, B_a1_17_4, A_a1_17_5, S_a1_17_5, R_a1_17_5, B_a1_17_5, S_a1_17_6, R_a1_17_6, B_a1_17_6, S_a1_17_7, R_a1_17_7, B_a1_17_7⟩ := id h_a1_17
  have hD : gv_D (gc_E2 ws0 tb 4 (yX2_build, cX2_build, 7, none) kX2_build) := gq_ok oX2_build
  refine gc_ev2 (d := 4) (l := kX2_build) (Po := fun r h' => (∃ (I' : gr_I) (J' : gr_J), h' = gc_h sh I' J' A ∧ gc_Inv ro I' ∧ (∀ q j : Nat, ((q = p ∧ j = 6) ∨ (q = p ∧ j = 7) ∨ (q = p ∧ j = 8) ∨ (q = p ∧ j = 9) ∨ q = (p + 1) ∨ q = (p + 2) ∨ q = (p + 3) ∨ q = (p + 4) ∨ q = (p + 6) ∨ q = (p + 7)) ∨ I' q j = I q j) ∧ (∀ q j : Nat, (False) ∨ J' q j = J q j) ∧ r = none ∧ (gc_FB p (24 * I a1 11) I') ∧ (I' p 8 = I a1 11))) htb rfl (Nat.le_of_ble_eq_true rfl) ?_
  have N_a1__p_2 : ¬ (a1 = (p + 2)) := by omega
  have N_p__p_2 : ¬ (p = (p + 2)) := by omega
  have N_p_4__p_2 : ¬ ((p + 4) = (p + 2)) := by omega
  have N_p_3__p_2 : ¬ ((p + 3) = (p + 2)) := by omega
  have N_p_4__p_1 : ¬ ((p + 4) = (p + 1)) := by omega
  have N_p_3__p_1 : ¬ ((p + 3) = (p + 1)) := by omega
  have N_a1__p_1 : ¬ (a1 = (p + 1)) := by omega
  have N_p__p_1 : ¬ (p = (p + 1)) := by omega
  have N_p_2__p_1 : ¬ ((p + 2) = (p + 1)) := by omega
  have N_a1__p_3 : ¬ (a1 = (p + 3)) := by omega
  have N_p__p_3 : ¬ (p = (p + 3)) := by omega
  have N_p_2__p_3 : ¬ ((p + 2) = (p + 3)) := by omega
  have N_a1__p_4 : ¬ (a1 = (p + 4)) := by omega
  have N_p__p_4 : ¬ (p = (p + 4)) := by omega
  have N_p_2__p_4 : ¬ ((p + 2) = (p + 4)) := by omega
  have N_a1__p_6 : ¬ (a1 = (p + 6)) := by omega
  have N_a1__p_7 : ¬ (a1 = (p + 7)) := by omega
  have N_p__p_6 : ¬ (p = (p + 6)) := by omega
  have N_p__p_7 : ¬ (p = (p + 7)) := by omega
  have N_p_2__p_6 : ¬ ((p + 2) = (p + 6)) := by omega
  have N_p_2__p_7 : ¬ ((p + 2) = (p + 7)) := by omega
  have N_p_4__p_6 : ¬ ((p + 4) = (p + 6)) := by omega
  have N_p_4__p_7 : ¬ ((p + 4) = (p + 7)) := by omega
  have N_p_3__p_6 : ¬ ((p + 3) = (p + 6)) := by omega
  have N_p_3__p_7 : ¬ ((p + 3) = (p + 7)) := by omega
  have N_p_2__p : ¬ ((p + 2) = p) := by omega
  have N_p_4__p : ¬ ((p + 4) = p) := by omega
  have N_p_3__p : ¬ ((p + 3) = p) := by omega
  have f1 := (show 0 ≤ I a1 11 ∧ I a1 11 ≤ 64 from gc_in hI R_a1 rfl rfl)
  have f2 := (show 0 ≤ I p 8 ∧ I p 8 ≤ 64 from gc_in hI R_p rfl rfl)
  have L23 : ((I a1 11 = I a1 11)) → gv_X (gc_E2 ws0 tb 4 (yX2_build, cX2_build, 7, none) kX2_build) (gv_Q cX2_build none sh (fun r h' => (∃ (I' : gr_I) (J' : gr_J), h' = gc_h sh I' J' A ∧ gc_Inv ro I' ∧ (∀ q j : Nat, ((q = p ∧ j = 6) ∨ (q = p ∧ j = 7) ∨ (q = p ∧ j = 8) ∨ (q = p ∧ j = 9) ∨ q = (p + 1) ∨ q = (p + 2) ∨ q = (p + 3) ∨ q = (p + 4) ∨ q = (p + 6) ∨ q = (p + 7)) ∨ I' q j = I q j) ∧ (∀ q j : Nat, (False) ∨ J' q j = J q j) ∧ r = none ∧ (gc_FB p (24 * I a1 11) I') ∧ (I' p 8 = I a1 11)))) (23, [(0, .inr (.inr (some p))), (1, .inr (.inr (some a1)))], [], sh, gc_h sh I J A) := by
    intro m_3
    have e0_3 := m_3
    have f4 := (show 0 ≤ I a1 11 ∧ I a1 11 ≤ 64 from gc_in hI R_a1 rfl rfl)
    have f5 := (show 0 ≤ I p 8 ∧ I p 8 ≤ 64 from gc_in hI R_p rfl rfl)
    have L54 : ∀ (n9 : Nat) (I6 : gr_I) (J7 : gr_J) (v2_8 : Int), (v2_8 - (-2)).toNat < n9 → gc_Inv ro I6 → (∀ q j : Nat, ((q = p ∧ j = 6) ∨ (q = p ∧ j = 7) ∨ (q = p ∧ j = 8) ∨ (q = p ∧ j = 9) ∨ q = (p + 1) ∨ q = (p + 2) ∨ q = (p + 3) ∨ q = (p + 4) ∨ q = (p + 6) ∨ q = (p + 7)) ∨ I6 q j = I q j) → (∀ q j : Nat, (False) ∨ J7 q j = J q j) → gc_FB p (24 * I a1 11) I6 → (((-1) ≤ v2_8 ∧ v2_8 ≤ 63) ∧ (v2_8 < I a1 11) ∧ (I6 p 8 = I a1 11) ∧ (I6 a1 11 = I a1 11)) → gv_X (gc_E2 ws0 tb 4 (yX2_build, cX2_build, 7, none) kX2_build) (gv_Q cX2_build none sh (fun r h' => (∃ (I' : gr_I) (J' : gr_J), h' = gc_h sh I' J' A ∧ gc_Inv ro I' ∧ (∀ q j : Nat, ((q = p ∧ j = 6) ∨ (q = p ∧ j = 7) ∨ (q = p ∧ j = 8) ∨ (q = p ∧ j = 9) ∨ q = (p + 1) ∨ q = (p + 2) ∨ q = (p + 3) ∨ q = (p + 4) ∨ q = (p + 6) ∨ q = (p + 7)) ∨ I' q j = I q j) ∧ (∀ q j : Nat, (False) ∨ J' q j = J q j) ∧ r = none ∧ (gc_FB p (24 * I a1 11) I') ∧ (I' p 8 = I a1 11)))) (54, [(0, .inr (.inr (some p))), (1, .inr (.inr (some a1))), (2, .inl v2_8)], [], sh, gc_h sh I6 J7 A) := by
      intro n9
      induction n9 with
      | zero => intro I6 J7 v2_8 hn; omega
      | succ n9 ih54 =>
        intro I6 J7 v2_8 hn hI6 FI6 FJ7 KFB_I6 m_8
        clear e0_3 f4 f5
        obtain ⟨hv2_8, e0_8, e1_8, e2_8⟩ := m_8
        have f9 := (show 0 ≤ I6 a1 11 ∧ I6 a1 11 ≤ 64 from gc_in hI6 R_a1 rfl rfl)
        have f10 := (show 0 ≤ I6 p 8 ∧ I6 p 8 ≤ 64 from gc_in hI6 R_p rfl rfl)
        have L66 : ∀ (n9 : Nat) (I11 : gr_I) (J12 : gr_J) (v3_13 : Int), (v3_13 - (-2)).toNat < n9 → gc_Inv ro I11 → (∀ q j : Nat, ((q = p ∧ j = 6) ∨ (q = p ∧ j = 7) ∨ (q = p ∧ j = 8) ∨ (q = p ∧ j = 9) ∨ q = (p + 1) ∨ q = (p + 2) ∨ q = (p + 3) ∨ q = (p + 4) ∨ q = (p + 6) ∨ q = (p + 7)) ∨ I11 q j = I q j) → (∀ q j : Nat, (False) ∨ J12 q j = J q j) → gc_FB p (24 * I a1 11) I11 → ((0 ≤ v2_8 ∧ v2_8 ≤ 63) ∧ ((-1) ≤ v3_13 ∧ v3_13 ≤ 23) ∧ (v2_8 < I a1 11) ∧ (I11 p 8 = I a1 11) ∧ (I11 a1 11 = I a1 11)) → gv_X (gc_E2 ws0 tb 4 (yX2_build, cX2_build, 7, none) kX2_build) (gv_Q cX2_build none sh (fun r h' => (∃ (I' : gr_I) (J' : gr_J), h' = gc_h sh I' J' A ∧ gc_Inv ro I' ∧ (∀ q j : Nat, ((q = p ∧ j = 6) ∨ (q = p ∧ j = 7) ∨ (q = p ∧ j = 8) ∨ (q = p ∧ j = 9) ∨ q = (p + 1) ∨ q = (p + 2) ∨ q = (p + 3) ∨ q = (p + 4) ∨ q = (p + 6) ∨ q = (p + 7)) ∨ I' q j = I q j) ∧ (∀ q j : Nat, (False) ∨ J' q j = J q j) ∧ r = none ∧ (gc_FB p (24 * I a1 11) I') ∧ (I' p 8 = I a1 11)))) (66, [(0, .inr (.inr (some p))), (1, .inr (.inr (some a1))), (2, .inl v2_8), (3, .inl v3_13)], [], sh, gc_h sh I11 J12 A) := by
          intro n9
          induction n9 with
          | zero => intro I11 J12 v3_13 hn; omega
          | succ n9 ih66 =>
            intro I11 J12 v3_13 hn hI11 FI11 FJ12 KFB_I11 m_13
            clear hv2_8 e0_8 e1_8 e2_8 f9 f10
            obtain ⟨hv2_8_13, hv3_13, e0_13, e1_13, e2_13⟩ := m_13
            have f14 := (show 0 ≤ I11 a1 11 ∧ I11 a1 11 ≤ 64 from gc_in hI11 R_a1 rfl rfl)
            have f15 := (show 0 ≤ I11 p 8 ∧ I11 p 8 ≤ 64 from gc_in hI11 R_p rfl rfl)
            have L109 : ∀ (I16 : gr_I) (J17 : gr_J) (v4_18 : Int) (s1_18 : Int) (s2_18 : Int), gc_Inv ro I16 → (∀ q j : Nat, ((q = p ∧ j = 6) ∨ (q = p ∧ j = 7) ∨ (q = p ∧ j = 8) ∨ (q = p ∧ j = 9) ∨ q = (p + 1) ∨ q = (p + 2) ∨ q = (p + 3) ∨ q = (p + 4) ∨ q = (p + 6) ∨ q = (p + 7)) ∨ I16 q j = I q j) → (∀ q j : Nat, (False) ∨ J17 q j = J q j) → gc_FB p (24 * I a1 11) I16 → ((0 ≤ v2_8 ∧ v2_8 ≤ 63) ∧ (0 ≤ v3_13 ∧ v3_13 ≤ 23) ∧ (0 ≤ v4_18 ∧ v4_18 ≤ 1535) ∧ (0 ≤ s1_18 ∧ s1_18 ≤ 1535) ∧ ((-1) ≤ s2_18 ∧ s2_18 ≤ 24) ∧ (v2_8 < I a1 11) ∧ (I16 p 8 = I a1 11) ∧ (v4_18 = v2_8 * 24 + v3_13) ∧ (I16 a1 11 = I a1 11)) → gv_X (gc_E2 ws0 tb 4 (yX2_build, cX2_build, 7, none) kX2_build) (gv_Q cX2_build none sh (fun r h' => (∃ (I' : gr_I) (J' : gr_J), h' = gc_h sh I' J' A ∧ gc_Inv ro I' ∧ (∀ q j : Nat, ((q = p ∧ j = 6) ∨ (q = p ∧ j = 7) ∨ (q = p ∧ j = 8) ∨ (q = p ∧ j = 9) ∨ q = (p + 1) ∨ q = (p + 2) ∨ q = (p + 3) ∨ q = (p + 4) ∨ q = (p + 6) ∨ q = (p + 7)) ∨ I' q j = I q j) ∧ (∀ q j : Nat, (False) ∨ J' q j = J q j) ∧ r = none ∧ (gc_FB p (24 * I a1 11) I') ∧ (I' p 8 = I a1 11)))) (109, [(0, .inr (.inr (some p))), (1, .inr (.inr (some a1))), (2, .inl v2_8), (3, .inl v3_13), (4, .inl v4_18)], [.inl s2_18, .inl s1_18, .inr (.inr (some (p + 2)))], sh, gc_h sh I16 J17 A) := by
              intro I16 J17 v4_18 s1_18 s2_18 hI16 FI16 FJ17 KFB_I16 m_18
              clear hv2_8_13 hv3_13 e0_13 e1_13 e2_13 f14 f15
              obtain ⟨hv2_8_18, hv3_13_18, hv4_18, hs1_18, hs2_18, e0_18, e1_18, e2_18, e3_18⟩ := m_18
              have f19 := (show 0 ≤ I16 a1 11 ∧ I16 a1 11 ≤ 64 from gc_in hI16 R_a1 rfl rfl)
              have f20 := (show 0 ≤ I16 p 8 ∧ I16 p 8 ≤ 64 from gc_in hI16 R_p rfl rfl)
              have L184 : ∀ (I21 : gr_I) (J22 : gr_J) , gc_Inv ro I21 → (∀ q j : Nat, ((q = p ∧ j = 6) ∨ (q = p ∧ j = 7) ∨ (q = p ∧ j = 8) ∨ (q = p ∧ j = 9) ∨ q = (p + 1) ∨ q = (p + 2) ∨ q = (p + 3) ∨ q = (p + 4) ∨ q = (p + 6) ∨ q = (p + 7)) ∨ I21 q j = I q j) → (∀ q j : Nat, (False) ∨ J22 q j = J q j) → gc_FB p (24 * I a1 11) I21 → ((0 ≤ v2_8 ∧ v2_8 ≤ 63) ∧ (0 ≤ v3_13 ∧ v3_13 ≤ 23) ∧ (v2_8 < I a1 11) ∧ (I21 p 8 = I a1 11) ∧ (I21 a1 11 = I a1 11)) → gv_X (gc_E2 ws0 tb 4 (yX2_build, cX2_build, 7, none) kX2_build) (gv_Q cX2_build none sh (fun r h' => (∃ (I' : gr_I) (J' : gr_J), h' = gc_h sh I' J' A ∧ gc_Inv ro I' ∧ (∀ q j : Nat, ((q = p ∧ j = 6) ∨ (q = p ∧ j = 7) ∨ (q = p ∧ j = 8) ∨ (q = p ∧ j = 9) ∨ q = (p + 1) ∨ q = (p + 2) ∨ q = (p + 3) ∨ q = (p + 4) ∨ q = (p + 6) ∨ q = (p + 7)) ∨ I' q j = I q j) ∧ (∀ q j : Nat, (False) ∨ J' q j = J q j) ∧ r = none ∧ (gc_FB p (24 * I a1 11) I') ∧ (I' p 8 = I a1 11)))) (184, [(0, .inr (.inr (some p))), (1, .inr (.inr (some a1))), (2, .inl v2_8), (3, .inl v3_13)], [], sh, gc_h sh I21 J22 A) := by
                intro I21 J22 hI21 FI21 FJ22 KFB_I21 m_23
                clear hv2_8_18 hv3_13_18 hv4_18 hs1_18 hs2_18 e0_18 e1_18 e2_18 e3_18 f19 f20
                obtain ⟨hv2_8_23, hv3_13_23, e0_23, e1_23, e2_23⟩ := m_23
                have f24 := (show 0 ≤ I21 a1 11 ∧ I21 a1 11 ≤ 64 from gc_in hI21 R_a1 rfl rfl)
                have f25 := (show 0 ≤ I21 p 8 ∧ I21 p 8 ≤ 64 from gc_in hI21 R_p rfl rfl)
                refine gv_run 2 true hD (pc' := 66) (lv' := [(3, .inl (v3_13 + (-1))), (0, .inr (.inr (some p))), (1, .inr (.inr (some a1))), (2, .inl v2_8)]) (st' := []) (h' := gc_h sh I21 J22 A) (C := ((True ∧ True) ∧ True)) rfl ⟨⟨trivial, trivial⟩, trivial⟩ ?_
                refine gv_pick [1, 2, 3, 0] rfl ?_
                exact ih66 I21 J22 ((v3_13 + (-1))) (by omega) hI21 FI21 FJ22 KFB_I21 (by omega)
              refine gv_iast hD rfl S_p_2 ⟨by decide, B_p_2⟩ ⟨by omega, by omega⟩ ?_
              refine gc_st hI16 S_p_2 rfl R_p_2 (lo := (-1)) (hi := 24) rfl rfl (by omega) (by omega) (fun I26 hI26 q27 p27 => ?_)
              have FI26 := gc_frs (W := fun q j => (q = p ∧ j = 6) ∨ (q = p ∧ j = 7) ∨ (q = p ∧ j = 8) ∨ (q = p ∧ j = 9) ∨ q = (p + 1) ∨ q = (p + 2) ∨ q = (p + 3) ∨ q = (p + 4) ∨ q = (p + 6) ∨ q = (p + 7)) FI16 (Or.inr (Or.inr (Or.inr (Or.inr (Or.inr (Or.inl rfl)))))) p27
              have t28 := p27 a1 11 (fun h => absurd h.1 N_a1__p_2)
              have t29 := p27 p 8 (fun h => absurd h.1 N_p__p_2)
              have KFB_I26 := gc_FB_fr KFB_I16 (fun k => p27 (p + 4) k (fun h => absurd h.1 N_p_4__p_2)) (fun k => p27 (p + 3) k (fun h => absurd h.1 N_p_3__p_2))
              show gv_X _ _ (110, [(0, .inr (.inr (some p))), (1, .inr (.inr (some a1))), (2, .inl v2_8), (3, .inl v3_13), (4, .inl v4_18)], [], sh, gc_h sh I26 J17 A)
              refine gv_run 1 true hD (pc' := 111) (lv' := [(0, .inr (.inr (some p))), (1, .inr (.inr (some a1))), (2, .inl v2_8), (3, .inl v3_13), (4, .inl v4_18)]) (st' := [.inr (.inr (some p))]) (h' := gc_h sh I26 J17 A) (C := (True ∧ True)) rfl ⟨trivial, trivial⟩ ?_
              refine gv_get hD rfl rfl S_p ⟨by decide, B_p⟩ (gc_hA S_p rfl A_p_2) ?_
              show gv_X _ _ (114, [(0, .inr (.inr (some p))), (1, .inr (.inr (some a1))), (2, .inl v2_8), (3, .inl v3_13), (4, .inl v4_18)], [.inr (.inr (some (p + 2)))], sh, gc_h sh I26 J17 A)
              refine gv_run 1 true hD (pc' := 116) (lv' := [(0, .inr (.inr (some p))), (1, .inr (.inr (some a1))), (2, .inl v2_8), (3, .inl v3_13), (4, .inl v4_18)]) (st' := [.inl v4_18, .inr (.inr (some (p + 2)))]) (h' := gc_h sh I26 J17 A) (C := (True ∧ True)) rfl ⟨trivial, trivial⟩ ?_
              have f30 := (show (-1) ≤ I26 (p + 2) (Int.toNat v4_18) ∧ I26 (p + 2) (Int.toNat v4_18) ≤ 24 from gc_in hI26 R_p_2 rfl rfl)
              refine gv_iald hD rfl S_p_2 rfl ⟨by decide, B_p_2⟩ ⟨by omega, by omega⟩ (gc_iI S_p_2 rfl) ?_
              show gv_X _ _ (117, [(0, .inr (.inr (some p))), (1, .inr (.inr (some a1))), (2, .inl v2_8), (3, .inl v3_13), (4, .inl v4_18)], [.inl (I26 (p + 2) (Int.toNat v4_18))], sh, gc_h sh I26 J17 A)
              refine gv_if_le (t := 184) hD rfl rfl ⟨by omega, by omega⟩ (fun c31 => ?_) (fun c31 => ?_)
              · show gv_X _ _ (184, [(0, .inr (.inr (some p))), (1, .inr (.inr (some a1))), (2, .inl v2_8), (3, .inl v3_13), (4, .inl v4_18)], [], sh, gc_h sh I26 J17 A)
                refine gv_pick [0, 1, 2, 3] rfl ?_
                exact L184 I26 J17 hI26 FI26 FJ17 KFB_I26 (by omega)
              · show gv_X _ _ (120, [(0, .inr (.inr (some p))), (1, .inr (.inr (some a1))), (2, .inl v2_8), (3, .inl v3_13), (4, .inl v4_18)], [], sh, gc_h sh I26 J17 A)
                refine gv_run 1 true hD (pc' := 121) (lv' := [(0, .inr (.inr (some p))), (1, .inr (.inr (some a1))), (2, .inl v2_8), (3, .inl v3_13), (4, .inl v4_18)]) (st' := [.inr (.inr (some p))]) (h' := gc_h sh I26 J17 A) (C := (True ∧ True)) rfl ⟨trivial, trivial⟩ ?_
                have f33 := (show 0 ≤ I26 p 6 ∧ I26 p 6 ≤ 1 from gc_in hI26 R_p rfl rfl)
                obtain ⟨f32_, hq_f32_, S_f32, R_f32, B_f32, D_f32⟩ := gc_sw (p := p) (d := 6) (s := 1) (z := I26 p 6) (show 0 ≤ I26 p 6 ∧ I26 p 6 ≤ 1 from gc_in hI26 R_p rfl rfl) S_p_6 R_p_6 B_p_6 S_p_7 R_p_7 B_p_7
                refine gv_get hD rfl rfl S_p ⟨by decide, B_p⟩ (gc_hS (n := 6) S_p rfl hq_f32_) ?_
                show gv_X _ _ (124, [(0, .inr (.inr (some p))), (1, .inr (.inr (some a1))), (2, .inl v2_8), (3, .inl v3_13), (4, .inl v4_18)], [.inr (.inr (some f32_))], sh, gc_h sh I26 J17 A)
                refine gv_run 2 true hD (pc' := 126) (lv' := [(0, .inr (.inr (some p))), (1, .inr (.inr (some a1))), (2, .inl v2_8), (3, .inl v3_13), (4, .inl v4_18)]) (st' := [.inr (.inr (some p)), .inl 0, .inr (.inr (some f32_))]) (h' := gc_h sh I26 J17 A) (C := ((True ∧ True) ∧ True)) rfl ⟨⟨trivial, trivial⟩, trivial⟩ ?_
                refine gv_get hD rfl rfl S_p ⟨by decide, B_p⟩ (gc_hA S_p rfl A_p_1) ?_
                show gv_X _ _ (129, [(0, .inr (.inr (some p))), (1, .inr (.inr (some a1))), (2, .inl v2_8), (3, .inl v3_13), (4, .inl v4_18)], [.inr (.inr (some (p + 1))), .inl 0, .inr (.inr (some f32_))], sh, gc_h sh I26 J17 A)
                refine gv_run 4 true hD (pc' := 135) (lv' := [(0, .inr (.inr (some p))), (1, .inr (.inr (some a1))), (2, .inl v2_8), (3, .inl v3_13), (4, .inl v4_18)]) (st' := [.inr (.inr (some p)), .inl (v4_18 * 24), .inr (.inr (some (p + 1))), .inl 0, .inr (.inr (some f32_))]) (h' := gc_h sh I26 J17 A) (C := ((((True ∧ True) ∧ True) ∧ True) ∧ True)) rfl ⟨⟨⟨⟨trivial, trivial⟩, trivial⟩, trivial⟩, trivial⟩ ?_
                refine gv_get hD rfl rfl S_p ⟨by decide, B_p⟩ (gc_hA S_p rfl A_p_2) ?_
                show gv_X _ _ (138, [(0, .inr (.inr (some p))), (1, .inr (.inr (some a1))), (2, .inl v2_8), (3, .inl v3_13), (4, .inl v4_18)], [.inr (.inr (some (p + 2))), .inl (v4_18 * 24), .inr (.inr (some (p + 1))), .inl 0, .inr (.inr (some f32_))], sh, gc_h sh I26 J17 A)
                refine gv_run 1 true hD (pc' := 140) (lv' := [(0, .inr (.inr (some p))), (1, .inr (.inr (some a1))), (2, .inl v2_8), (3, .inl v3_13), (4, .inl v4_18)]) (st' := [.inl v4_18, .inr (.inr (some (p + 2))), .inl (v4_18 * 24), .inr (.inr (some (p + 1))), .inl 0, .inr (.inr (some f32_))]) (h' := gc_h sh I26 J17 A) (C := (True ∧ True)) rfl ⟨trivial, trivial⟩ ?_
                have f34 := (show (-1) ≤ I26 (p + 2) (Int.toNat v4_18) ∧ I26 (p + 2) (Int.toNat v4_18) ≤ 24 from gc_in hI26 R_p_2 rfl rfl)
                refine gv_iald hD rfl S_p_2 rfl ⟨by decide, B_p_2⟩ ⟨by omega, by omega⟩ (gc_iI S_p_2 rfl) ?_
                show gv_X _ _ (141, [(0, .inr (.inr (some p))), (1, .inr (.inr (some a1))), (2, .inl v2_8), (3, .inl v3_13), (4, .inl v4_18)], [.inl (I26 (p + 2) (Int.toNat v4_18)), .inl (v4_18 * 24), .inr (.inr (some (p + 1))), .inl 0, .inr (.inr (some f32_))], sh, gc_h sh I26 J17 A)
                refine gv_copy hD rfl (gc_lC2_71 hws) (Nat.le_of_ble_eq_true rfl) ⟨B_f32, B_p_1⟩ S_f32 S_p_1 (by decide) ⟨by decide, by decide⟩ ⟨by omega, by omega, by omega⟩ (by omega) (by omega) (fun _ k _ => by rw [gc_iI S_f32 rfl]; have h9 := (show (-128) ≤ I26 f32_ (Int.toNat 0 + k) ∧ I26 f32_ (Int.toNat 0 + k) ≤ 127 from gc_in hI26 R_f32 rfl rfl); exact ⟨by omega, by omega⟩) ?_
                refine gc_cp hI26 S_f32 S_p_1 (by decide) (fun j hj => by have h9 := (show (-128) ≤ I26 f32_ (Int.toNat 0 + j) ∧ I26 f32_ (Int.toNat 0 + j) ≤ 127 from gc_in hI26 R_f32 rfl rfl); rw [R_p_1]; exact ⟨by show (-128) ≤ _; omega, by show _ ≤ 127; omega⟩) (fun I36 hI36 p35 q35 => ?_)
                have FI36 := gc_frp (W := fun q j => (q = p ∧ j = 6) ∨ (q = p ∧ j = 7) ∨ (q = p ∧ j = 8) ∨ (q = p ∧ j = 9) ∨ q = (p + 1) ∨ q = (p + 2) ∨ q = (p + 3) ∨ q = (p + 4) ∨ q = (p + 6) ∨ q = (p + 7)) (V := fun q j => q = (p + 1) ∧ Int.toNat (v4_18 * 24) ≤ j ∧ j < Int.toNat (v4_18 * 24) + Int.toNat ((I26 (p + 2) (Int.toNat v4_18)))) FI26 (fun q j h => (Or.inr (Or.inr (Or.inr (Or.inr (Or.inl h.1)))))) p35
                have KFB_I36 := gc_FB_fr KFB_I26 (fun k => p35 (p + 4) k (fun h => absurd h.1 N_p_4__p_1)) (fun k => p35 (p + 3) k (fun h => absurd h.1 N_p_3__p_1))
                have t38 := p35 a1 11 (fun h => absurd h.1 N_a1__p_1)
                have t39 := p35 p 8 (fun h => absurd h.1 N_p__p_1)
                have t40 := p35 (p + 2) (Int.toNat v4_18) (fun h => absurd h.1 N_p_2__p_1)
                have f41 := (show 0 ≤ I36 a1 11 ∧ I36 a1 11 ≤ 64 from gc_in hI36 R_a1 rfl rfl)
                have f42 := (show 0 ≤ I36 p 8 ∧ I36 p 8 ≤ 64 from gc_in hI36 R_p rfl rfl)
                show gv_X _ _ (144, [(0, .inr (.inr (some p))), (1, .inr (.inr (some a1))), (2, .inl v2_8), (3, .inl v3_13), (4, .inl v4_18)], [], sh, gc_h sh I36 J17 A)
                refine gv_run 1 true hD (pc' := 145) (lv' := [(0, .inr (.inr (some p))), (1, .inr (.inr (some a1))), (2, .inl v2_8), (3, .inl v3_13), (4, .inl v4_18)]) (st' := [.inr (.inr (some p))]) (h' := gc_h sh I36 J17 A) (C := (True ∧ True)) rfl ⟨trivial, trivial⟩ ?_
                have f44 := (show 0 ≤ I36 p 6 ∧ I36 p 6 ≤ 1 from gc_in hI36 R_p rfl rfl)
                obtain ⟨f43_, hq_f43_, S_f43, R_f43, B_f43, D_f43⟩ := gc_sw (p := p) (d := 6) (s := 1) (z := I36 p 6) (show 0 ≤ I36 p 6 ∧ I36 p 6 ≤ 1 from gc_in hI36 R_p rfl rfl) S_p_6 R_p_6 B_p_6 S_p_7 R_p_7 B_p_7
                refine gv_get hD rfl rfl S_p ⟨by decide, B_p⟩ (gc_hS (n := 6) S_p rfl hq_f43_) ?_
                show gv_X _ _ (148, [(0, .inr (.inr (some p))), (1, .inr (.inr (some a1))), (2, .inl v2_8), (3, .inl v3_13), (4, .inl v4_18)], [.inr (.inr (some f43_))], sh, gc_h sh I36 J17 A)
                refine gv_run 2 true hD (pc' := 150) (lv' := [(0, .inr (.inr (some p))), (1, .inr (.inr (some a1))), (2, .inl v2_8), (3, .inl v3_13), (4, .inl v4_18)]) (st' := [.inr (.inr (some p)), .inl 0, .inr (.inr (some f43_))]) (h' := gc_h sh I36 J17 A) (C := ((True ∧ True) ∧ True)) rfl ⟨⟨trivial, trivial⟩, trivial⟩ ?_
                refine gv_get hD rfl rfl S_p ⟨by decide, B_p⟩ (gc_hA S_p rfl A_p_2) ?_
                show gv_X _ _ (153, [(0, .inr (.inr (some p))), (1, .inr (.inr (some a1))), (2, .inl v2_8), (3, .inl v3_13), (4, .inl v4_18)], [.inr (.inr (some (p + 2))), .inl 0, .inr (.inr (some f43_))], sh, gc_h sh I36 J17 A)
                refine gv_run 1 true hD (pc' := 155) (lv' := [(0, .inr (.inr (some p))), (1, .inr (.inr (some a1))), (2, .inl v2_8), (3, .inl v3_13), (4, .inl v4_18)]) (st' := [.inl v4_18, .inr (.inr (some (p + 2))), .inl 0, .inr (.inr (some f43_))]) (h' := gc_h sh I36 J17 A) (C := (True ∧ True)) rfl ⟨trivial, trivial⟩ ?_
                have f45 := (show (-1) ≤ I36 (p + 2) (Int.toNat v4_18) ∧ I36 (p + 2) (Int.toNat v4_18) ≤ 24 from gc_in hI36 R_p_2 rfl rfl)
                refine gv_iald hD rfl S_p_2 rfl ⟨by decide, B_p_2⟩ ⟨by omega, by omega⟩ (gc_iI S_p_2 rfl) ?_
                show gv_X _ _ (156, [(0, .inr (.inr (some p))), (1, .inr (.inr (some a1))), (2, .inl v2_8), (3, .inl v3_13), (4, .inl v4_18)], [.inl (I36 (p + 2) (Int.toNat v4_18)), .inl 0, .inr (.inr (some f43_))], sh, gc_h sh I36 J17 A)
                obtain ⟨r46, h46, E46, P46⟩ := d_X2_hash (ws0 := ws0) (tb := tb) hws htb sh ro I36 J17 A hI36  24 f43_ 0 ((I36 (p + 2) (Int.toNat v4_18)))  S_f43 R_f43 B_f43 (by decide)  ⟨by omega, by omega⟩ ⟨by omega, by omega⟩ (by omega) 
                obtain ⟨rfl, ⟨z46, rfl, q46⟩⟩ := P46
                refine gv_callS hD rfl (As := [.inr (.inr (some f43_)), .inl 0, .inl (I36 (p + 2) (Int.toNat v4_18))]) (st := []) rfl (gc_lS2 hws rfl) (Nat.le_of_ble_eq_true rfl) (gz_Ev_mono (d := 1) (by decide) E46) ?_
                show gv_X _ _ (159, [(0, .inr (.inr (some p))), (1, .inr (.inr (some a1))), (2, .inl v2_8), (3, .inl v3_13), (4, .inl v4_18)], [.inl z46], sh, gc_h sh I36 J17 A)
                refine gv_run 2 true hD (pc' := 162) (lv' := [(6, .inl z46), (0, .inr (.inr (some p))), (1, .inr (.inr (some a1))), (2, .inl v2_8), (3, .inl v3_13), (4, .inl v4_18)]) (st' := [.inr (.inr (some p))]) (h' := gc_h sh I36 J17 A) (C := ((True ∧ True) ∧ True)) rfl ⟨⟨trivial, trivial⟩, trivial⟩ ?_
                refine gv_get hD rfl rfl S_p ⟨by decide, B_p⟩ (gc_hA S_p rfl A_p_3) ?_
                show gv_X _ _ (165, [(6, .inl z46), (0, .inr (.inr (some p))), (1, .inr (.inr (some a1))), (2, .inl v2_8), (3, .inl v3_13), (4, .inl v4_18)], [.inr (.inr (some (p + 3)))], sh, gc_h sh I36 J17 A)
                refine gv_run 2 true hD (pc' := 168) (lv' := [(6, .inl z46), (0, .inr (.inr (some p))), (1, .inr (.inr (some a1))), (2, .inl v2_8), (3, .inl v3_13), (4, .inl v4_18)]) (st' := [.inr (.inr (some p)), .inl v4_18, .inr (.inr (some (p + 3)))]) (h' := gc_h sh I36 J17 A) (C := ((True ∧ True) ∧ True)) rfl ⟨⟨trivial, trivial⟩, trivial⟩ ?_
                refine gv_get hD rfl rfl S_p ⟨by decide, B_p⟩ (gc_hA S_p rfl A_p_4) ?_
                show gv_X _ _ (171, [(6, .inl z46), (0, .inr (.inr (some p))), (1, .inr (.inr (some a1))), (2, .inl v2_8), (3, .inl v3_13), (4, .inl v4_18)], [.inr (.inr (some (p + 4))), .inl v4_18, .inr (.inr (some (p + 3)))], sh, gc_h sh I36 J17 A)
                refine gv_run 1 true hD (pc' := 173) (lv' := [(6, .inl z46), (0, .inr (.inr (some p))), (1, .inr (.inr (some a1))), (2, .inl v2_8), (3, .inl v3_13), (4, .inl v4_18)]) (st' := [.inl z46, .inr (.inr (some (p + 4))), .inl v4_18, .inr (.inr (some (p + 3)))]) (h' := gc_h sh I36 J17 A) (C := (True ∧ True)) rfl ⟨trivial, trivial⟩ ?_
                have f47 := (show (-1) ≤ I36 (p + 4) (Int.toNat z46) ∧ I36 (p + 4) (Int.toNat z46) ≤ 1535 from gc_in hI36 R_p_4 rfl rfl)
                refine gv_iald hD rfl S_p_4 rfl ⟨by decide, B_p_4⟩ ⟨by omega, by omega⟩ (gc_iI S_p_4 rfl) ?_
                show gv_X _ _ (174, [(6, .inl z46), (0, .inr (.inr (some p))), (1, .inr (.inr (some a1))), (2, .inl v2_8), (3, .inl v3_13), (4, .inl v4_18)], [.inl (I36 (p + 4) (Int.toNat z46)), .inl v4_18, .inr (.inr (some (p + 3)))], sh, gc_h sh I36 J17 A)
                have t48 := (KFB_I36).1 (Int.toNat z46) (by omega)
                refine gv_iast hD rfl S_p_3 ⟨by decide, B_p_3⟩ ⟨by omega, by omega⟩ ?_
                refine gc_st hI36 S_p_3 rfl R_p_3 (lo := (-1)) (hi := 1535) rfl rfl (by omega) (by omega) (fun I49 hI49 q50 p50 => ?_)
                have FI49 := gc_frs (W := fun q j => (q = p ∧ j = 6) ∨ (q = p ∧ j = 7) ∨ (q = p ∧ j = 8) ∨ (q = p ∧ j = 9) ∨ q = (p + 1) ∨ q = (p + 2) ∨ q = (p + 3) ∨ q = (p + 4) ∨ q = (p + 6) ∨ q = (p + 7)) FI36 (Or.inr (Or.inr (Or.inr (Or.inr (Or.inr (Or.inr (Or.inl rfl))))))) p50
                have t51 := p50 a1 11 (fun h => absurd h.1 N_a1__p_3)
                have t52 := p50 p 8 (fun h => absurd h.1 N_p__p_3)
                have t53 := p50 (p + 2) (Int.toNat v4_18) (fun h => absurd h.1 N_p_2__p_3)
                have KFB_I49 : gc_FB p (24 * I a1 11) I49 := gc_FB_c KFB_I36 p50 (by omega)
                show gv_X _ _ (175, [(6, .inl z46), (0, .inr (.inr (some p))), (1, .inr (.inr (some a1))), (2, .inl v2_8), (3, .inl v3_13), (4, .inl v4_18)], [], sh, gc_h sh I49 J17 A)
                refine gv_run 1 true hD (pc' := 176) (lv' := [(6, .inl z46), (0, .inr (.inr (some p))), (1, .inr (.inr (some a1))), (2, .inl v2_8), (3, .inl v3_13), (4, .inl v4_18)]) (st' := [.inr (.inr (some p))]) (h' := gc_h sh I49 J17 A) (C := (True ∧ True)) rfl ⟨trivial, trivial⟩ ?_
                refine gv_get hD rfl rfl S_p ⟨by decide, B_p⟩ (gc_hA S_p rfl A_p_4) ?_
                show gv_X _ _ (179, [(6, .inl z46), (0, .inr (.inr (some p))), (1, .inr (.inr (some a1))), (2, .inl v2_8), (3, .inl v3_13), (4, .inl v4_18)], [.inr (.inr (some (p + 4)))], sh, gc_h sh I49 J17 A)
                refine gv_run 2 true hD (pc' := 183) (lv' := [(6, .inl z46), (0, .inr (.inr (some p))), (1, .inr (.inr (some a1))), (2, .inl v2_8), (3, .inl v3_13), (4, .inl v4_18)]) (st' := [.inl v4_18, .inl z46, .inr (.inr (some (p + 4)))]) (h' := gc_h sh I49 J17 A) (C := ((True ∧ True) ∧ True)) rfl ⟨⟨trivial, trivial⟩, trivial⟩ ?_
                refine gv_iast hD rfl S_p_4 ⟨by decide, B_p_4⟩ ⟨by omega, by omega⟩ ?_
                refine gc_st hI49 S_p_4 rfl R_p_4 (lo := (-1)) (hi := 1535) rfl rfl (by omega) (by omega) (fun I54 hI54 q55 p55 => ?_)
                have FI54 := gc_frs (W := fun q j => (q = p ∧ j = 6) ∨ (q = p ∧ j = 7) ∨ (q = p ∧ j = 8) ∨ (q = p ∧ j = 9) ∨ q = (p + 1) ∨ q = (p + 2) ∨ q = (p + 3) ∨ q = (p + 4) ∨ q = (p + 6) ∨ q = (p + 7)) FI49 (Or.inr (Or.inr (Or.inr (Or.inr (Or.inr (Or.inr (Or.inr (Or.inl rfl)))))))) p55
                have t56 := p55 a1 11 (fun h => absurd h.1 N_a1__p_4)
                have t57 := p55 p 8 (fun h => absurd h.1 N_p__p_4)
                have t58 := p55 (p + 2) (Int.toNat v4_18) (fun h => absurd h.1 N_p_2__p_4)
                have KFB_I54 : gc_FB p (24 * I a1 11) I54 := gc_FB_h KFB_I49 p55 (by omega)
                show gv_X _ _ (184, [(6, .inl z46), (0, .inr (.inr (some p))), (1, .inr (.inr (some a1))), (2, .inl v2_8), (3, .inl v3_13), (4, .inl v4_18)], [], sh, gc_h sh I54 J17 A)
                refine gv_pick [1, 2, 3, 4] rfl ?_
                exact L184 I54 J17 hI54 FI54 FJ17 KFB_I54 (by omega)
            refine gv_run 1 true hD (pc' := 67) (lv' := [(0, .inr (.inr (some p))), (1, .inr (.inr (some a1))), (2, .inl v2_8), (3, .inl v3_13)]) (st' := [.inl v3_13]) (h' := gc_h sh I11 J12 A) (C := (True ∧ True)) rfl ⟨trivial, trivial⟩ ?_
            refine gv_if_lt (t := 190) hD rfl rfl ⟨by omega, by omega⟩ (fun c59 => ?_) (fun c59 => ?_)
            · show gv_X _ _ (190, [(0, .inr (.inr (some p))), (1, .inr (.inr (some a1))), (2, .inl v2_8), (3, .inl v3_13)], [], sh, gc_h sh I11 J12 A)
              refine gv_run 2 true hD (pc' := 54) (lv' := [(2, .inl (v2_8 + (-1))), (0, .inr (.inr (some p))), (1, .inr (.inr (some a1))), (3, .inl v3_13)]) (st' := []) (h' := gc_h sh I11 J12 A) (C := ((True ∧ True) ∧ True)) rfl ⟨⟨trivial, trivial⟩, trivial⟩ ?_
              refine gv_pick [1, 2, 0] rfl ?_
              exact ih54 I11 J12 ((v2_8 + (-1))) (by omega) hI11 FI11 FJ12 KFB_I11 (by omega)
            · show gv_X _ _ (70, [(0, .inr (.inr (some p))), (1, .inr (.inr (some a1))), (2, .inl v2_8), (3, .inl v3_13)], [], sh, gc_h sh I11 J12 A)
              refine gv_run 7 true hD (pc' := 79) (lv' := [(4, .inl ((v2_8 * 24) + v3_13)), (0, .inr (.inr (some p))), (1, .inr (.inr (some a1))), (2, .inl v2_8), (3, .inl v3_13)]) (st' := [.inr (.inr (some p))]) (h' := gc_h sh I11 J12 A) (C := (((((((True ∧ True) ∧ True) ∧ True) ∧ True) ∧ True) ∧ True) ∧ True)) rfl ⟨⟨⟨⟨⟨⟨⟨trivial, trivial⟩, trivial⟩, trivial⟩, trivial⟩, trivial⟩, trivial⟩, trivial⟩ ?_
              refine gv_run 3 true hD (pc' := 82) (lv' := [(4, .inl ((v2_8 * 24) + v3_13)), (0, .inr (.inr (some p))), (1, .inr (.inr (some a1))), (2, .inl v2_8), (3, .inl v3_13)]) (st' := [.inl v3_13, .inl v2_8, .inr (.inr (some a1)), .inr (.inr (some p))]) (h' := gc_h sh I11 J12 A) (C := (((True ∧ True) ∧ True) ∧ True)) rfl ⟨⟨⟨trivial, trivial⟩, trivial⟩, trivial⟩ ?_
              obtain ⟨r60, h60, E60, P60⟩ := d_X2_join (ws0 := ws0) (tb := tb) hws htb sh ro I11 J12 A hI11 p a1 v2_8 v3_13 hp h_a1 G_a1  ⟨by omega, by omega⟩ ⟨by omega, by omega⟩ (by omega) 
              obtain ⟨I61, J62, rfl, hI61, g60, k60, ⟨z60, rfl, q60⟩⟩ := P60
              have FI61 := gc_frc (W := fun q j => (q = p ∧ j = 6) ∨ (q = p ∧ j = 7) ∨ (q = p ∧ j = 8) ∨ (q = p ∧ j = 9) ∨ q = (p + 1) ∨ q = (p + 2) ∨ q = (p + 3) ∨ q = (p + 4) ∨ q = (p + 6) ∨ q = (p + 7)) (V := fun q j => q = (p + 6) ∨ q = (p + 7)) FI11 (fun q j h => (h.elim (fun h => (Or.inr (Or.inr (Or.inr (Or.inr (Or.inr (Or.inr (Or.inr (Or.inr (Or.inl h)))))))))) (fun h => (Or.inr (Or.inr (Or.inr (Or.inr (Or.inr (Or.inr (Or.inr (Or.inr (Or.inr h)))))))))))) g60
              have t63 := (g60 a1 11).resolve_left (fun h => h.elim (fun h => absurd h N_a1__p_6) (fun h => absurd h N_a1__p_7))
              have t64 := (g60 p 8).resolve_left (fun h => h.elim (fun h => absurd h N_p__p_6) (fun h => absurd h N_p__p_7))
              have t65 := (g60 (p + 2) (Int.toNat (((v2_8 * 24) + v3_13)))).resolve_left (fun h => h.elim (fun h => absurd h N_p_2__p_6) (fun h => absurd h N_p_2__p_7))
              obtain rfl : J12 = J62 := funext fun q => funext fun j => ((k60 q j).resolve_left id).symm
              have KFB_I61 := gc_FB_fr KFB_I11 (fun k => (g60 (p + 4) k).resolve_left (fun h => h.elim (fun h => absurd h N_p_4__p_6) (fun h => absurd h N_p_4__p_7))) (fun k => (g60 (p + 3) k).resolve_left (fun h => h.elim (fun h => absurd h N_p_3__p_6) (fun h => absurd h N_p_3__p_7)))
              refine gv_callV hD rfl (As := [.inr (.inr (some a1)), .inl v2_8, .inl v3_13]) (st := []) rfl B_p S_p rfl (gc_lV2 hws rfl) (Nat.le_of_ble_eq_true rfl) (gz_Ev_mono (d := 2) (by decide) E60) ?_
              show gv_X _ _ (85, [(4, .inl ((v2_8 * 24) + v3_13)), (0, .inr (.inr (some p))), (1, .inr (.inr (some a1))), (2, .inl v2_8), (3, .inl v3_13)], [.inl z60], sh, gc_h sh I61 J12 A)
              refine gv_run 2 true hD (pc' := 88) (lv' := [(5, .inl z60), (4, .inl ((v2_8 * 24) + v3_13)), (0, .inr (.inr (some p))), (1, .inr (.inr (some a1))), (2, .inl v2_8), (3, .inl v3_13)]) (st' := [.inr (.inr (some p))]) (h' := gc_h sh I61 J12 A) (C := ((True ∧ True) ∧ True)) rfl ⟨⟨trivial, trivial⟩, trivial⟩ ?_
              refine gv_get hD rfl rfl S_p ⟨by decide, B_p⟩ (gc_hA S_p rfl A_p_2) ?_
              show gv_X _ _ (91, [(5, .inl z60), (4, .inl ((v2_8 * 24) + v3_13)), (0, .inr (.inr (some p))), (1, .inr (.inr (some a1))), (2, .inl v2_8), (3, .inl v3_13)], [.inr (.inr (some (p + 2)))], sh, gc_h sh I61 J12 A)
              refine gv_run 2 true hD (pc' := 95) (lv' := [(5, .inl z60), (4, .inl ((v2_8 * 24) + v3_13)), (0, .inr (.inr (some p))), (1, .inr (.inr (some a1))), (2, .inl v2_8), (3, .inl v3_13)]) (st' := [.inl z60, .inl ((v2_8 * 24) + v3_13), .inr (.inr (some (p + 2)))]) (h' := gc_h sh I61 J12 A) (C := ((True ∧ True) ∧ True)) rfl ⟨⟨trivial, trivial⟩, trivial⟩ ?_
              refine gv_if_le (t := 108) hD rfl rfl ⟨by omega, by omega⟩ (fun c66 => ?_) (fun c66 => ?_)
              · show gv_X _ _ (108, [(5, .inl z60), (4, .inl ((v2_8 * 24) + v3_13)), (0, .inr (.inr (some p))), (1, .inr (.inr (some a1))), (2, .inl v2_8), (3, .inl v3_13)], [.inl ((v2_8 * 24) + v3_13), .inr (.inr (some (p + 2)))], sh, gc_h sh I61 J12 A)
                refine gv_run 1 true hD (pc' := 109) (lv' := [(5, .inl z60), (4, .inl ((v2_8 * 24) + v3_13)), (0, .inr (.inr (some p))), (1, .inr (.inr (some a1))), (2, .inl v2_8), (3, .inl v3_13)]) (st' := [.inl (-1), .inl ((v2_8 * 24) + v3_13), .inr (.inr (some (p + 2)))]) (h' := gc_h sh I61 J12 A) (C := (True ∧ True)) rfl ⟨trivial, trivial⟩ ?_
                refine gv_pick [2, 3, 4, 5, 1] rfl ?_
                exact L109 I61 J12 (((v2_8 * 24) + v3_13)) (((v2_8 * 24) + v3_13)) (-1) hI61 FI61 FJ12 KFB_I61 (by omega)
              · show gv_X _ _ (98, [(5, .inl z60), (4, .inl ((v2_8 * 24) + v3_13)), (0, .inr (.inr (some p))), (1, .inr (.inr (some a1))), (2, .inl v2_8), (3, .inl v3_13)], [.inl ((v2_8 * 24) + v3_13), .inr (.inr (some (p + 2)))], sh, gc_h sh I61 J12 A)
                refine gv_run 3 true hD (pc' := 102) (lv' := [(5, .inl z60), (4, .inl ((v2_8 * 24) + v3_13)), (0, .inr (.inr (some p))), (1, .inr (.inr (some a1))), (2, .inl v2_8), (3, .inl v3_13)]) (st' := [.inl z60, .inr (.inr (some a1)), .inr (.inr (some p)), .inl ((v2_8 * 24) + v3_13), .inr (.inr (some (p + 2)))]) (h' := gc_h sh I61 J12 A) (C := (((True ∧ True) ∧ True) ∧ True)) rfl ⟨⟨⟨trivial, trivial⟩, trivial⟩, trivial⟩ ?_
                obtain ⟨r67, h67, E67, P67⟩ := d_X2_soundAll (ws0 := ws0) (tb := tb) hws htb sh ro I61 J12 A hI61 p a1 z60 hp h_a1 G_a1  ⟨by omega, by omega⟩ (gc_sc_fr x0 (fun k => (FI61 (a1 + 10) k).resolve_left (by omega))) (by omega) 
                obtain ⟨I68, J69, rfl, hI68, g67, k67, ⟨z67, rfl, q67⟩⟩ := P67
                have FI68 := gc_frc (W := fun q j => (q = p ∧ j = 6) ∨ (q = p ∧ j = 7) ∨ (q = p ∧ j = 8) ∨ (q = p ∧ j = 9) ∨ q = (p + 1) ∨ q = (p + 2) ∨ q = (p + 3) ∨ q = (p + 4) ∨ q = (p + 6) ∨ q = (p + 7)) (V := fun q j => (q = p ∧ j = 6) ∨ (q = p ∧ j = 7) ∨ q = (p + 6) ∨ q = (p + 7)) FI61 (fun q j h => (h.elim (fun h => (Or.inl h)) (fun h => (h.elim (fun h => (Or.inr (Or.inl h))) (fun h => (h.elim (fun h => (Or.inr (Or.inr (Or.inr (Or.inr (Or.inr (Or.inr (Or.inr (Or.inr (Or.inl h)))))))))) (fun h => (Or.inr (Or.inr (Or.inr (Or.inr (Or.inr (Or.inr (Or.inr (Or.inr (Or.inr h)))))))))))))))) g67
                have t70 := (g67 a1 11).resolve_left (fun h => h.elim (fun h => absurd h.2 (by decide)) (fun h => h.elim (fun h => absurd h.2 (by decide)) (fun h => h.elim (fun h => absurd h N_a1__p_6) (fun h => absurd h N_a1__p_7))))
                have t71 := (g67 p 8).resolve_left (fun h => h.elim (fun h => absurd h.2 (by decide)) (fun h => h.elim (fun h => absurd h.2 (by decide)) (fun h => h.elim (fun h => absurd h N_p__p_6) (fun h => absurd h N_p__p_7))))
                have t72 := (g67 (p + 2) (Int.toNat (((v2_8 * 24) + v3_13)))).resolve_left (fun h => h.elim (fun h => absurd h.1 N_p_2__p) (fun h => h.elim (fun h => absurd h.1 N_p_2__p) (fun h => h.elim (fun h => absurd h N_p_2__p_6) (fun h => absurd h N_p_2__p_7))))
                obtain rfl : J12 = J69 := funext fun q => funext fun j => ((k67 q j).resolve_left id).symm
                have KFB_I68 := gc_FB_fr KFB_I61 (fun k => (g67 (p + 4) k).resolve_left (fun h => h.elim (fun h => absurd h.1 N_p_4__p) (fun h => h.elim (fun h => absurd h.1 N_p_4__p) (fun h => h.elim (fun h => absurd h N_p_4__p_6) (fun h => absurd h N_p_4__p_7))))) (fun k => (g67 (p + 3) k).resolve_left (fun h => h.elim (fun h => absurd h.1 N_p_3__p) (fun h => h.elim (fun h => absurd h.1 N_p_3__p) (fun h => h.elim (fun h => absurd h N_p_3__p_6) (fun h => absurd h N_p_3__p_7)))))
                refine gv_callV hD rfl (As := [.inr (.inr (some a1)), .inl z60]) (st := [.inl ((v2_8 * 24) + v3_13), .inr (.inr (some (p + 2)))]) rfl B_p S_p rfl (gc_lV2 hws rfl) (Nat.le_of_ble_eq_true rfl) (gz_Ev_mono (d := 4) (by decide) E67) ?_
                show gv_X _ _ (105, [(5, .inl z60), (4, .inl ((v2_8 * 24) + v3_13)), (0, .inr (.inr (some p))), (1, .inr (.inr (some a1))), (2, .inl v2_8), (3, .inl v3_13)], [.inl z67, .inl ((v2_8 * 24) + v3_13), .inr (.inr (some (p + 2)))], sh, gc_h sh I68 J12 A)
                refine gv_run 1 true hD (pc' := 109) (lv' := [(5, .inl z60), (4, .inl ((v2_8 * 24) + v3_13)), (0, .inr (.inr (some p))), (1, .inr (.inr (some a1))), (2, .inl v2_8), (3, .inl v3_13)]) (st' := [.inl z67, .inl ((v2_8 * 24) + v3_13), .inr (.inr (some (p + 2)))]) (h' := gc_h sh I68 J12 A) (C := (True ∧ True)) rfl ⟨trivial, trivial⟩ ?_
                refine gv_pick [2, 3, 4, 5, 1] rfl ?_
                exact L109 I68 J12 (((v2_8 * 24) + v3_13)) (((v2_8 * 24) + v3_13)) z67 hI68 FI68 FJ12 KFB_I68 (by omega)
        refine gv_run 1 true hD (pc' := 55) (lv' := [(0, .inr (.inr (some p))), (1, .inr (.inr (some a1))), (2, .inl v2_8)]) (st' := [.inl v2_8]) (h' := gc_h sh I6 J7 A) (C := (True ∧ True)) rfl ⟨trivial, trivial⟩ ?_
        refine gv_if_lt (t := 196) hD rfl rfl ⟨by omega, by omega⟩ (fun c73 => ?_) (fun c73 => ?_)
        · show gv_X _ _ (196, [(0, .inr (.inr (some p))), (1, .inr (.inr (some a1))), (2, .inl v2_8)], [], sh, gc_h sh I6 J7 A)
          exact gv_vret hD rfl ⟨I6, J7, rfl, hI6, FI6, FJ7, ⟨rfl, KFB_I6, by omega⟩⟩
        · show gv_X _ _ (58, [(0, .inr (.inr (some p))), (1, .inr (.inr (some a1))), (2, .inl v2_8)], [], sh, gc_h sh I6 J7 A)
          refine gv_run 2 true hD (pc' := 60) (lv' := [(0, .inr (.inr (some p))), (1, .inr (.inr (some a1))), (2, .inl v2_8)]) (st' := [.inl v2_8, .inr (.inr (some a1))]) (h' := gc_h sh I6 J7 A) (C := ((True ∧ True) ∧ True)) rfl ⟨⟨trivial, trivial⟩, trivial⟩ ?_
          obtain ⟨r74, h74, E74, P74⟩ := d_X11_cellsOf (ws0 := ws0) (tb := tb) hws htb sh ro I6 J7 A hI6 a1 v2_8 h_a1   ⟨by omega, by omega⟩  
          obtain ⟨rfl, ⟨z74, rfl, q74⟩⟩ := P74
          refine gv_callV hD rfl (As := [.inl v2_8]) (st := []) rfl B_a1 S_a1 rfl (gc_lV2 hws rfl) (Nat.le_of_ble_eq_true rfl) (gz_Ev_mono (d := 2) (by decide) E74) ?_
          show gv_X _ _ (63, [(0, .inr (.inr (some p))), (1, .inr (.inr (some a1))), (2, .inl v2_8)], [.inl z74], sh, gc_h sh I6 J7 A)
          refine gv_run 3 true hD (pc' := 66) (lv' := [(3, .inl (z74 - 1)), (0, .inr (.inr (some p))), (1, .inr (.inr (some a1))), (2, .inl v2_8)]) (st' := []) (h' := gc_h sh I6 J7 A) (C := (((True ∧ True) ∧ True) ∧ True)) rfl ⟨⟨⟨trivial, trivial⟩, trivial⟩, trivial⟩ ?_
          refine gv_pick [1, 2, 3, 0] rfl ?_
          exact L66 _ I6 J7 (z74 - 1) (Nat.lt_succ_self _) hI6 FI6 FJ7 KFB_I6 (by omega)
    refine gv_run 2 true hD (pc' := 25) (lv' := [(0, .inr (.inr (some p))), (1, .inr (.inr (some a1)))]) (st' := [.inr (.inr (some a1)), .inr (.inr (some p))]) (h' := gc_h sh I J A) (C := ((True ∧ True) ∧ True)) rfl ⟨⟨trivial, trivial⟩, trivial⟩ ?_
    have f75 := (show 0 ≤ I a1 11 ∧ I a1 11 ≤ 64 from gc_in hI R_a1 rfl rfl)
    refine gv_get hD rfl rfl S_a1 ⟨by decide, B_a1⟩ (gc_hI S_a1 rfl) ?_
    show gv_X _ _ (28, [(0, .inr (.inr (some p))), (1, .inr (.inr (some a1)))], [.inl (I a1 11), .inr (.inr (some p))], sh, gc_h sh I J A)
    refine gv_put hD rfl rfl S_p ⟨by decide, B_p⟩ rfl trivial ?_
    refine gc_st (k := 8) hI S_p rfl R_p (lo := 0) (hi := 64) rfl rfl (by omega) (by omega) (fun I76 hI76 q77 p77 => ?_)
    have FI76 := gc_frs (W := fun q j => (q = p ∧ j = 6) ∨ (q = p ∧ j = 7) ∨ (q = p ∧ j = 8) ∨ (q = p ∧ j = 9) ∨ q = (p + 1) ∨ q = (p + 2) ∨ q = (p + 3) ∨ q = (p + 4) ∨ q = (p + 6) ∨ q = (p + 7)) FI (Or.inr (Or.inr (Or.inl ⟨rfl, rfl⟩))) p77
    have t78 := p77 a1 11 (fun h => absurd h.2 (by decide))
    have f79 := (show 0 ≤ I76 p 8 ∧ I76 p 8 ≤ 64 from gc_in hI76 R_p rfl rfl)
    show gv_X _ _ (31, [(0, .inr (.inr (some p))), (1, .inr (.inr (some a1)))], [], sh, gc_h sh I76 J A)
    refine gv_run 2 true hD (pc' := 33) (lv' := [(0, .inr (.inr (some p))), (1, .inr (.inr (some a1)))]) (st' := [.inr (.inr (some a1)), .inr (.inr (some p))]) (h' := gc_h sh I76 J A) (C := ((True ∧ True) ∧ True)) rfl ⟨⟨trivial, trivial⟩, trivial⟩ ?_
    have f80 := (show 0 ≤ I76 a1 6 ∧ I76 a1 6 ≤ 24 from gc_in hI76 R_a1 rfl rfl)
    refine gv_get hD rfl rfl S_a1 ⟨by decide, B_a1⟩ (gc_hI S_a1 rfl) ?_
    show gv_X _ _ (36, [(0, .inr (.inr (some p))), (1, .inr (.inr (some a1)))], [.inl (I76 a1 6), .inr (.inr (some p))], sh, gc_h sh I76 J A)
    refine gv_put hD rfl rfl S_p ⟨by decide, B_p⟩ rfl trivial ?_
    refine gc_st (k := 9) hI76 S_p rfl R_p (lo := 0) (hi := 24) rfl rfl (by omega) (by omega) (fun I81 hI81 q82 p82 => ?_)
    have FI81 := gc_frs (W := fun q j => (q = p ∧ j = 6) ∨ (q = p ∧ j = 7) ∨ (q = p ∧ j = 8) ∨ (q = p ∧ j = 9) ∨ q = (p + 1) ∨ q = (p + 2) ∨ q = (p + 3) ∨ q = (p + 4) ∨ q = (p + 6) ∨ q = (p + 7)) FI76 (Or.inr (Or.inr (Or.inr (Or.inl ⟨rfl, rfl⟩)))) p82
    have t83 := p82 a1 11 (fun h => absurd h.2 (by decide))
    have t84 := p82 p 8 (fun h => absurd h.2 (by decide))
    show gv_X _ _ (39, [(0, .inr (.inr (some p))), (1, .inr (.inr (some a1)))], [], sh, gc_h sh I81 J A)
    refine gv_run 1 true hD (pc' := 40) (lv' := [(0, .inr (.inr (some p))), (1, .inr (.inr (some a1)))]) (st' := [.inr (.inr (some p))]) (h' := gc_h sh I81 J A) (C := (True ∧ True)) rfl ⟨trivial, trivial⟩ ?_
    refine gv_get hD rfl rfl S_p ⟨by decide, B_p⟩ (gc_hA S_p rfl A_p_4) ?_
    show gv_X _ _ (43, [(0, .inr (.inr (some p))), (1, .inr (.inr (some a1)))], [.inr (.inr (some (p + 4)))], sh, gc_h sh I81 J A)
    refine gv_run 1 true hD (pc' := 44) (lv' := [(0, .inr (.inr (some p))), (1, .inr (.inr (some a1)))]) (st' := [.inl (-1), .inr (.inr (some (p + 4)))]) (h' := gc_h sh I81 J A) (C := (True ∧ True)) rfl ⟨trivial, trivial⟩ ?_
    obtain ⟨I86, E85, hI86, g85, q85⟩ := gj_fill (ws0 := ws0) (tb := tb) sh ro I81 J A hI81 (p + 4) 512 (-1) S_p_4 B_p_4 (by decide) ⟨by omega, by omega⟩ (fun k => by rw [R_p_4]; exact ⟨by show (-1) ≤ _; omega, by show _ ≤ 1535; omega⟩)
    refine gv_callS hD rfl (As := [.inr (.inr (some (p + 4))), .inl (-1)]) (st := []) rfl (gc_lS2 hws rfl) (Nat.le_of_ble_eq_true rfl) (gz_Ev_mono (d := 1) (by decide) E85) ?_
    have FI86 := gc_frc (W := fun q j => (q = p ∧ j = 6) ∨ (q = p ∧ j = 7) ∨ (q = p ∧ j = 8) ∨ (q = p ∧ j = 9) ∨ q = (p + 1) ∨ q = (p + 2) ∨ q = (p + 3) ∨ q = (p + 4) ∨ q = (p + 6) ∨ q = (p + 7)) (V := fun q j => q = (p + 4)) FI81 (fun q j h => (Or.inr (Or.inr (Or.inr (Or.inr (Or.inr (Or.inr (Or.inr (Or.inl h))))))))) g85
    have KFB_I86 : gc_FB p (24 * I a1 11) I86 := gc_FB_fill x2 (by omega) (by omega) q85 (fun k => ((g85 (p + 3) k).resolve_left (by omega)).trans (((p82 (p + 3) k (fun h => absurd h.1 (by omega))).trans (p77 (p + 3) k (fun h => absurd h.1 (by omega))))))
    have t88 := (g85 a1 11).resolve_left (fun h => absurd h N_a1__p_4)
    have t89 := (g85 p 8).resolve_left (fun h => absurd h N_p__p_4)
    have f90 := (show 0 ≤ I86 a1 11 ∧ I86 a1 11 ≤ 64 from gc_in hI86 R_a1 rfl rfl)
    have f91 := (show 0 ≤ I86 p 8 ∧ I86 p 8 ≤ 64 from gc_in hI86 R_p rfl rfl)
    show gv_X _ _ (47, [(0, .inr (.inr (some p))), (1, .inr (.inr (some a1)))], [], sh, gc_h sh I86 J A)
    refine gv_run 1 true hD (pc' := 48) (lv' := [(0, .inr (.inr (some p))), (1, .inr (.inr (some a1)))]) (st' := [.inr (.inr (some a1))]) (h' := gc_h sh I86 J A) (C := (True ∧ True)) rfl ⟨trivial, trivial⟩ ?_
    have f92 := (show 0 ≤ I86 a1 11 ∧ I86 a1 11 ≤ 64 from gc_in hI86 R_a1 rfl rfl)
    refine gv_get hD rfl rfl S_a1 ⟨by decide, B_a1⟩ (gc_hI S_a1 rfl) ?_
    show gv_X _ _ (51, [(0, .inr (.inr (some p))), (1, .inr (.inr (some a1)))], [.inl (I86 a1 11)], sh, gc_h sh I86 J A)
    refine gv_run 3 true hD (pc' := 54) (lv' := [(2, .inl ((I86 a1 11) - 1)), (0, .inr (.inr (some p))), (1, .inr (.inr (some a1)))]) (st' := []) (h' := gc_h sh I86 J A) (C := (((True ∧ True) ∧ True) ∧ True)) rfl ⟨⟨⟨trivial, trivial⟩, trivial⟩, trivial⟩ ?_
    refine gv_pick [1, 2, 0] rfl ?_
    exact L54 _ I86 J (((I86 a1 11) - 1)) (Nat.lt_succ_self _) hI86 FI86 FJ KFB_I86 (by omega)
  refine gv_run 1 true hD (pc' := 1) (lv' := [(0, .inr (.inr (some p))), (1, .inr (.inr (some a1)))]) (st' := [.inr (.inr (some p))]) (h' := gc_h sh I J A) (C := (True ∧ True)) rfl ⟨trivial, trivial⟩ ?_
  have f93 := (show 0 ≤ I p 8 ∧ I p 8 ≤ 64 from gc_in hI R_p rfl rfl)
  refine gv_get hD rfl rfl S_p ⟨by decide, B_p⟩ (gc_hI S_p rfl) ?_
  show gv_X _ _ (4, [(0, .inr (.inr (some p))), (1, .inr (.inr (some a1)))], [.inl (I p 8)], sh, gc_h sh I J A)
  refine gv_run 1 true hD (pc' := 5) (lv' := [(0, .inr (.inr (some p))), (1, .inr (.inr (some a1)))]) (st' := [.inr (.inr (some a1)), .inl (I p 8)]) (h' := gc_h sh I J A) (C := (True ∧ True)) rfl ⟨trivial, trivial⟩ ?_
  have f94 := (show 0 ≤ I a1 11 ∧ I a1 11 ≤ 64 from gc_in hI R_a1 rfl rfl)
  refine gv_get hD rfl rfl S_a1 ⟨by decide, B_a1⟩ (gc_hI S_a1 rfl) ?_
  show gv_X _ _ (8, [(0, .inr (.inr (some p))), (1, .inr (.inr (some a1)))], [.inl (I a1 11), .inl (I p 8)], sh, gc_h sh I J A)
  refine gv_icmp_ne (t := 23) hD rfl rfl ⟨⟨by omega, by omega⟩, ⟨by omega, by omega⟩⟩ (fun c95 => ?_) (fun c95 => ?_)
  · show gv_X _ _ (23, [(0, .inr (.inr (some p))), (1, .inr (.inr (some a1)))], [], sh, gc_h sh I J A)
    exact L23 (by omega)
  · show gv_X _ _ (11, [(0, .inr (.inr (some p))), (1, .inr (.inr (some a1)))], [], sh, gc_h sh I J A)
    refine gv_run 1 true hD (pc' := 12) (lv' := [(0, .inr (.inr (some p))), (1, .inr (.inr (some a1)))]) (st' := [.inr (.inr (some p))]) (h' := gc_h sh I J A) (C := (True ∧ True)) rfl ⟨trivial, trivial⟩ ?_
    have f96 := (show 0 ≤ I p 9 ∧ I p 9 ≤ 24 from gc_in hI R_p rfl rfl)
    refine gv_get hD rfl rfl S_p ⟨by decide, B_p⟩ (gc_hI S_p rfl) ?_
    show gv_X _ _ (15, [(0, .inr (.inr (some p))), (1, .inr (.inr (some a1)))], [.inl (I p 9)], sh, gc_h sh I J A)
    refine gv_run 1 true hD (pc' := 16) (lv' := [(0, .inr (.inr (some p))), (1, .inr (.inr (some a1)))]) (st' := [.inr (.inr (some a1)), .inl (I p 9)]) (h' := gc_h sh I J A) (C := (True ∧ True)) rfl ⟨trivial, trivial⟩ ?_
    have f97 := (show 0 ≤ I a1 6 ∧ I a1 6 ≤ 24 from gc_in hI R_a1 rfl rfl)
    refine gv_get hD rfl rfl S_a1 ⟨by decide, B_a1⟩ (gc_hI S_a1 rfl) ?_
    show gv_X _ _ (19, [(0, .inr (.inr (some p))), (1, .inr (.inr (some a1)))], [.inl (I a1 6), .inl (I p 9)], sh, gc_h sh I J A)
    refine gv_icmp_ne (t := 23) hD rfl rfl ⟨⟨by omega, by omega⟩, ⟨by omega, by omega⟩⟩ (fun c98 => ?_) (fun c98 => ?_)
    · show gv_X _ _ (23, [(0, .inr (.inr (some p))), (1, .inr (.inr (some a1)))], [], sh, gc_h sh I J A)
      exact L23 (by omega)
    · show gv_X _ _ (22, [(0, .inr (.inr (some p))), (1, .inr (.inr (some a1)))], [], sh, gc_h sh I J A)
      exact gv_vret hD rfl ⟨I, J, rfl, hI, FI, FJ, ⟨rfl, (by rw [show I a1 11 = I p 8 from by omega]; exact x2), by omega⟩⟩
