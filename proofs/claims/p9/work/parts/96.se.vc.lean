set_option maxHeartbeats 8000000 in
set_option maxRecDepth 100000 in
theorem d_X2_build_p_L54 {ws0 : List Cond} {tb : String → gz_T} (hws : gc_Ws ws0) (htb : gc_tbs tb) (sh : gz_Sh) (ro : Nat → Nat) (I : gr_I) (J : gr_J) (A : gc_A) (hI : gc_Inv ro I) (p : Nat) (a1 : Nat) (hp : gc_isForms sh ro A p) (h_a1 : gc_isTongue sh ro A a1) (G_a1 : 144 ≤ a1)  (x0 : gc_sc (a1 + 10) I) (x1 : p = a1 + 17) (x2 : gc_FB p (24 * I p 8) I) (x3 : I p 8 ≤ I a1 11) (y0 : ¬ I p 6 = I p 7) (y1 : so_lhs I a1) (y2 : fo_by I a1) (y3 : I p 8 = I a1 11 → I p 9 = I a1 6 → fo_FC I I a1 p) : ∀ (n9 : Nat) (I6 : gr_I) (J7 : gr_J) (v2_8 : Int), (v2_8 - (-2)).toNat < n9 → gc_Inv ro I6 → (∀ q j : Nat, ((q = p ∧ j = 6) ∨ (q = p ∧ j = 7) ∨ (q = p ∧ j = 8) ∨ (q = p ∧ j = 9) ∨ q = (p + 1) ∨ q = (p + 2) ∨ q = (p + 3) ∨ q = (p + 4) ∨ q = (p + 6) ∨ q = (p + 7)) ∨ I6 q j = I q j) → (∀ q j : Nat, (False) ∨ J7 q j = J q j) → gc_FB p (24 * I a1 11) I6 → (((-1) ≤ v2_8 ∧ v2_8 ≤ 63) ∧ (v2_8 < I a1 11) ∧ (I6 p 8 = I a1 11) ∧ (I6 a1 11 = I a1 11)) → (I6 p 9 = I a1 6) → fo_D I I6 a1 p v2_8 23 → gv_X (gc_E2 ws0 tb 4 (yX2_build, cX2_build, 7, none) kX2_build) (gv_Q cX2_build none sh (fun r hₚ => (∃ (Iₚ : gr_I) (Jₚ : gr_J), hₚ = gc_h sh Iₚ Jₚ A ∧ gc_Inv ro Iₚ ∧ (∀ q j : Nat, ((q = p ∧ j = 6) ∨ (q = p ∧ j = 7) ∨ (q = p ∧ j = 8) ∨ (q = p ∧ j = 9) ∨ q = (p + 1) ∨ q = (p + 2) ∨ q = (p + 3) ∨ q = (p + 4) ∨ q = (p + 6) ∨ q = (p + 7)) ∨ Iₚ q j = I q j) ∧ (∀ q j : Nat, (False) ∨ Jₚ q j = J q j) ∧ r = none ∧ (gc_FB p (24 * I a1 11) Iₚ) ∧ (Iₚ p 8 = I a1 11) ∧ (Iₚ p 9 = I a1 6) ∧ ¬ Iₚ p 6 = Iₚ p 7 ∧ fo_FC I Iₚ a1 p))) (54, [(0, .inr (.inr (some p))), (1, .inr (.inr (some a1))), (2, .inl v2_8)], [], sh, gc_h sh I6 J7 A) := by
  have FI : ∀ q j : Nat, ((q = p ∧ j = 6) ∨ (q = p ∧ j = 7) ∨ (q = p ∧ j = 8) ∨ (q = p ∧ j = 9) ∨ q = (p + 1) ∨ q = (p + 2) ∨ q = (p + 3) ∨ q = (p + 4) ∨ q = (p + 6) ∨ q = (p + 7)) ∨ I q j = I q j := fun _ _ => Or.inr rfl
  have FJ : ∀ q j : Nat, (False) ∨ J q j = J q j := fun _ _ => Or.inr rfl
  obtain ⟨S_p, R_p, B_p, A_p_0, S_20, R_20, B_20, A_p_1, S_p_1, R_p_1, B_p_1, A_p_2, S_p_2, R_p_2, B_p_2, A_p_3, S_p_3, R_p_3, B_p_3, A_p_4, S_p_4, R_p_4, B_p_4, A_p_5, S_p_5, R_p_5, B_p_5, S_p_6, R_p_6, B_p_6, S_p_7, R_p_7, B_p_7⟩ := id hp
  replace R_p := gz_hi R_p
  replace B_p := gz_hi B_p
  replace R_20 := gz_hi R_20
  replace B_20 := gz_hi B_20
  replace R_p_1 := gz_hi R_p_1
  replace B_p_1 := gz_hi B_p_1
  replace R_p_2 := gz_hi R_p_2
  replace B_p_2 := gz_hi B_p_2
  replace R_p_3 := gz_hi R_p_3
  replace B_p_3 := gz_hi B_p_3
  replace R_p_4 := gz_hi R_p_4
  replace B_p_4 := gz_hi B_p_4
  replace R_p_5 := gz_hi R_p_5
  replace B_p_5 := gz_hi B_p_5
  replace R_p_6 := gz_hi R_p_6
  replace B_p_6 := gz_hi B_p_6
  replace R_p_7 := gz_hi R_p_7
  replace B_p_7 := gz_hi B_p_7
  obtain ⟨S_a1, R_a1, B_a1, A_a1_0, h_a1_1, A_a1_1, h_a1_3, A_a1_2, S_a1_5, R_a1_5, B_a1_5, A_a1_3, S_a1_6, R_a1_6, B_a1_6, A_a1_4, h_a1_7, A_a1_5, S_a1_9, R_a1_9, B_a1_9, A_a1_7, S_a1_10, R_a1_10, B_a1_10, A_a1_8, h_a1_11, A_a1_9, S_a1_13, R_a1_13, B_a1_13, A_a1_10, S_a1_14, R_a1_14, B_a1_14, A_a1_12, S_a1_15, R_a1_15, B_a1_15, A_a1_14, S_a1_16, R_a1_16, B_a1_16, A_a1_15, h_a1_17⟩ := id h_a1
  replace R_a1 := gz_hi R_a1
  replace B_a1 := gz_hi B_a1
  replace R_a1_5 := gz_hi R_a1_5
  replace B_a1_5 := gz_hi B_a1_5
  replace R_a1_6 := gz_hi R_a1_6
  replace B_a1_6 := gz_hi B_a1_6
  replace R_a1_9 := gz_hi R_a1_9
  replace B_a1_9 := gz_hi B_a1_9
  replace R_a1_10 := gz_hi R_a1_10
  replace B_a1_10 := gz_hi B_a1_10
  replace R_a1_13 := gz_hi R_a1_13
  replace B_a1_13 := gz_hi B_a1_13
  replace R_a1_14 := gz_hi R_a1_14
  replace B_a1_14 := gz_hi B_a1_14
  replace R_a1_15 := gz_hi R_a1_15
  replace B_a1_15 := gz_hi B_a1_15
  replace R_a1_16 := gz_hi R_a1_16
  replace B_a1_16 := gz_hi B_a1_16
  obtain ⟨S_a1_1, R_a1_1, B_a1_1, A_a1_1_0, S_a1_1_1, R_a1_1_1, B_a1_1_1, Q0_a1_1, Q1_a1_1, Q2_a1_1⟩ := id h_a1_1
  replace R_a1_1 := gz_hi R_a1_1
  replace B_a1_1 := gz_hi B_a1_1
  replace R_a1_1_1 := gz_hi R_a1_1_1
  replace B_a1_1_1 := gz_hi B_a1_1_1
  obtain ⟨S_a1_3, R_a1_3, B_a1_3, A_a1_3_0, S_a1_3_1, R_a1_3_1, B_a1_3_1, Q0_a1_3, Q1_a1_3, Q2_a1_3⟩ := id h_a1_3
  replace R_a1_3 := gz_hi R_a1_3
  replace B_a1_3 := gz_hi B_a1_3
  replace R_a1_3_1 := gz_hi R_a1_3_1
  replace B_a1_3_1 := gz_hi B_a1_3_1
  obtain ⟨S_a1_7, R_a1_7, B_a1_7, A_a1_7_0, S_a1_7_1, R_a1_7_1, B_a1_7_1, Q0_a1_7, Q1_a1_7, Q2_a1_7⟩ := id h_a1_7
  replace R_a1_7 := gz_hi R_a1_7
  replace B_a1_7 := gz_hi B_a1_7
  replace R_a1_7_1 := gz_hi R_a1_7_1
  replace B_a1_7_1 := gz_hi B_a1_7_1
  obtain ⟨S_a1_11, R_a1_11, B_a1_11, A_a1_11_0, S_a1_11_1, R_a1_11_1, B_a1_11_1, Q0_a1_11, Q1_a1_11, Q2_a1_11⟩ := id h_a1_11
  replace R_a1_11 := gz_hi R_a1_11
  replace B_a1_11 := gz_hi B_a1_11
  replace R_a1_11_1 := gz_hi R_a1_11_1
  replace B_a1_11_1 := gz_hi B_a1_11_1
  obtain ⟨S_a1_17, R_a1_17, B_a1_17, A_a1_17_0, S_20, R_20, B_20, A_a1_17_1, S_a1_17_1, R_a1_17_1, B_a1_17_1, A_a1_17_2, S_a1_17_2, R_a1_17_2, B_a1_17_2, A_a1_17_3, S_a1_17_3, R_a1_17_3, B_a1_17_3, A_a1_17_4, S_a1_17_4, R_a1_17_4, B_a1_17_4, A_a1_17_5, S_a1_17_5, R_a1_17_5, B_a1_17_5, S_a1_17_6, R_a1_17_6, B_a1_17_6, S_a1_17_7, R_a1_17_7, B_a1_17_7⟩ := id h_a1_17
  replace R_a1_17 := gz_hi R_a1_17
  replace B_a1_17 := gz_hi B_a1_17
  replace R_20 := gz_hi R_20
  replace B_20 := gz_hi B_20
  replace R_a1_17_1 := gz_hi R_a1_17_1
  replace B_a1_17_1 := gz_hi B_a1_17_1
  replace R_a1_17_2 := gz_hi R_a1_17_2
  replace B_a1_17_2 := gz_hi B_a1_17_2
  replace R_a1_17_3 := gz_hi R_a1_17_3
  replace B_a1_17_3 := gz_hi B_a1_17_3
  replace R_a1_17_4 := gz_hi R_a1_17_4
  replace B_a1_17_4 := gz_hi B_a1_17_4
  replace R_a1_17_5 := gz_hi R_a1_17_5
  replace B_a1_17_5 := gz_hi B_a1_17_5
  replace R_a1_17_6 := gz_hi R_a1_17_6
  replace B_a1_17_6 := gz_hi B_a1_17_6
  replace R_a1_17_7 := gz_hi R_a1_17_7
  replace B_a1_17_7 := gz_hi B_a1_17_7
  have hD : gv_D (gc_E2 ws0 tb 4 (yX2_build, cX2_build, 7, none) kX2_build) := gq_of oX2_build
  have N_a1__p_2 := gz_hi (show ¬ (a1 = (p + 2)) from by (/-0-/first | omega | (simp only [gz_hd] at *; omega)))
  have N_p__p_2 := gz_hi (show ¬ (p = (p + 2)) from by (/-1-/first | omega | (simp only [gz_hd] at *; omega)))
  have N_p_4__p_2 := gz_hi (show ¬ ((p + 4) = (p + 2)) from by (/-2-/first | omega | (simp only [gz_hd] at *; omega)))
  have N_p_3__p_2 := gz_hi (show ¬ ((p + 3) = (p + 2)) from by (/-3-/first | omega | (simp only [gz_hd] at *; omega)))
  have N_p_4__p_1 := gz_hi (show ¬ ((p + 4) = (p + 1)) from by (/-4-/first | omega | (simp only [gz_hd] at *; omega)))
  have N_p_3__p_1 := gz_hi (show ¬ ((p + 3) = (p + 1)) from by (/-5-/first | omega | (simp only [gz_hd] at *; omega)))
  have N_a1__p_1 := gz_hi (show ¬ (a1 = (p + 1)) from by (/-6-/first | omega | (simp only [gz_hd] at *; omega)))
  have N_p__p_1 := gz_hi (show ¬ (p = (p + 1)) from by (/-7-/first | omega | (simp only [gz_hd] at *; omega)))
  have N_p_2__p_1 := gz_hi (show ¬ ((p + 2) = (p + 1)) from by (/-8-/first | omega | (simp only [gz_hd] at *; omega)))
  have N_a1__p_3 := gz_hi (show ¬ (a1 = (p + 3)) from by (/-9-/first | omega | (simp only [gz_hd] at *; omega)))
  have N_p__p_3 := gz_hi (show ¬ (p = (p + 3)) from by (/-10-/first | omega | (simp only [gz_hd] at *; omega)))
  have N_p_2__p_3 := gz_hi (show ¬ ((p + 2) = (p + 3)) from by (/-11-/first | omega | (simp only [gz_hd] at *; omega)))
  have N_a1__p_4 := gz_hi (show ¬ (a1 = (p + 4)) from by (/-12-/first | omega | (simp only [gz_hd] at *; omega)))
  have N_p__p_4 := gz_hi (show ¬ (p = (p + 4)) from by (/-13-/first | omega | (simp only [gz_hd] at *; omega)))
  have N_p_2__p_4 := gz_hi (show ¬ ((p + 2) = (p + 4)) from by (/-14-/first | omega | (simp only [gz_hd] at *; omega)))
  have N_a1__p_6 := gz_hi (show ¬ (a1 = (p + 6)) from by (/-15-/first | omega | (simp only [gz_hd] at *; omega)))
  have N_a1__p_7 := gz_hi (show ¬ (a1 = (p + 7)) from by (/-16-/first | omega | (simp only [gz_hd] at *; omega)))
  have N_p__p_6 := gz_hi (show ¬ (p = (p + 6)) from by (/-17-/first | omega | (simp only [gz_hd] at *; omega)))
  have N_p__p_7 := gz_hi (show ¬ (p = (p + 7)) from by (/-18-/first | omega | (simp only [gz_hd] at *; omega)))
  have N_p_2__p_6 := gz_hi (show ¬ ((p + 2) = (p + 6)) from by (/-19-/first | omega | (simp only [gz_hd] at *; omega)))
  have N_p_2__p_7 := gz_hi (show ¬ ((p + 2) = (p + 7)) from by (/-20-/first | omega | (simp only [gz_hd] at *; omega)))
  have N_p_4__p_6 := gz_hi (show ¬ ((p + 4) = (p + 6)) from by (/-21-/first | omega | (simp only [gz_hd] at *; omega)))
  have N_p_4__p_7 := gz_hi (show ¬ ((p + 4) = (p + 7)) from by (/-22-/first | omega | (simp only [gz_hd] at *; omega)))
  have N_p_3__p_6 := gz_hi (show ¬ ((p + 3) = (p + 6)) from by (/-23-/first | omega | (simp only [gz_hd] at *; omega)))
  have N_p_3__p_7 := gz_hi (show ¬ ((p + 3) = (p + 7)) from by (/-24-/first | omega | (simp only [gz_hd] at *; omega)))
  have N_p_2__p := gz_hi (show ¬ ((p + 2) = p) from by (/-25-/first | omega | (simp only [gz_hd] at *; omega)))
  have N_p_4__p := gz_hi (show ¬ ((p + 4) = p) from by (/-26-/first | omega | (simp only [gz_hd] at *; omega)))
  have N_p_3__p := gz_hi (show ¬ ((p + 3) = p) from by (/-27-/first | omega | (simp only [gz_hd] at *; omega)))
  have f1 := gz_hi ((show 0 ≤ I a1 11 ∧ I a1 11 ≤ 64 from gc_in2 hI (gz_sh R_a1) rfl rfl rfl))
  have f2 := gz_hi ((show 0 ≤ I p 8 ∧ I p 8 ≤ 64 from gc_in2 hI (gz_sh R_p) rfl rfl rfl))
  intro n9
  induction n9 with
  | zero => intro I6 J7 v2_8 hn; (/-28-/first | omega | (simp only [gz_hd] at *; omega))
  | succ n9 ih54 =>
    intro I6 J7 v2_8 hn hI6 FI6 FJ7 KFB_I6 m_8 k9_1 k_1
    obtain ⟨hv2_8, e0_8, e1_8, e2_8⟩ := gz_h4 m_8
    have L66 : ∀ (n9 : Nat) (I11 : gr_I) (J12 : gr_J) (v3_13 : Int), (v3_13 - (-2)).toNat < n9 → gc_Inv ro I11 → (∀ q j : Nat, ((q = p ∧ j = 6) ∨ (q = p ∧ j = 7) ∨ (q = p ∧ j = 8) ∨ (q = p ∧ j = 9) ∨ q = (p + 1) ∨ q = (p + 2) ∨ q = (p + 3) ∨ q = (p + 4) ∨ q = (p + 6) ∨ q = (p + 7)) ∨ I11 q j = I q j) → (∀ q j : Nat, (False) ∨ J12 q j = J q j) → gc_FB p (24 * I a1 11) I11 → ((0 ≤ v2_8 ∧ v2_8 ≤ 63) ∧ ((-1) ≤ v3_13 ∧ v3_13 ≤ 23) ∧ (v2_8 < I a1 11) ∧ (I11 p 8 = I a1 11) ∧ (I11 a1 11 = I a1 11)) → (I11 p 9 = I a1 6) → (v3_13 < fo_cs I a1 v2_8) → fo_D I I11 a1 p v2_8 v3_13 → gv_X (gc_E2 ws0 tb 4 (yX2_build, cX2_build, 7, none) kX2_build) (gv_Q cX2_build none sh (fun r hₚ => (∃ (Iₚ : gr_I) (Jₚ : gr_J), hₚ = gc_h sh Iₚ Jₚ A ∧ gc_Inv ro Iₚ ∧ (∀ q j : Nat, ((q = p ∧ j = 6) ∨ (q = p ∧ j = 7) ∨ (q = p ∧ j = 8) ∨ (q = p ∧ j = 9) ∨ q = (p + 1) ∨ q = (p + 2) ∨ q = (p + 3) ∨ q = (p + 4) ∨ q = (p + 6) ∨ q = (p + 7)) ∨ Iₚ q j = I q j) ∧ (∀ q j : Nat, (False) ∨ Jₚ q j = J q j) ∧ r = none ∧ (gc_FB p (24 * I a1 11) Iₚ) ∧ (Iₚ p 8 = I a1 11) ∧ (Iₚ p 9 = I a1 6) ∧ ¬ Iₚ p 6 = Iₚ p 7 ∧ fo_FC I Iₚ a1 p))) (66, [(0, .inr (.inr (some p))), (1, .inr (.inr (some a1))), (2, .inl v2_8), (3, .inl v3_13)], [], sh, gc_h sh I11 J12 A) := by
      intro n9
      induction n9 with
      | zero => intro I11 J12 v3_13 hn; (/-29-/first | omega | (simp only [gz_hd] at *; omega))
      | succ n9 ih66 =>
        intro I11 J12 v3_13 hn hI11 FI11 FJ12 KFB_I11 m_13 k9_2 kc_2 k_2
        clear hv2_8 e0_8 e1_8 e2_8
        obtain ⟨hv2_8_13, hv3_13, e0_13, e1_13, e2_13⟩ := gz_h5 m_13
        have L109 : ∀ (I16 : gr_I) (J17 : gr_J) (v4_18 : Int) (s1_18 : Int) (s2_18 : Int), gc_Inv ro I16 → (∀ q j : Nat, ((q = p ∧ j = 6) ∨ (q = p ∧ j = 7) ∨ (q = p ∧ j = 8) ∨ (q = p ∧ j = 9) ∨ q = (p + 1) ∨ q = (p + 2) ∨ q = (p + 3) ∨ q = (p + 4) ∨ q = (p + 6) ∨ q = (p + 7)) ∨ I16 q j = I q j) → (∀ q j : Nat, (False) ∨ J17 q j = J q j) → gc_FB p (24 * I a1 11) I16 → ((0 ≤ v2_8 ∧ v2_8 ≤ 63) ∧ (0 ≤ v3_13 ∧ v3_13 ≤ 23) ∧ (0 ≤ v4_18 ∧ v4_18 ≤ 1535) ∧ (0 ≤ s1_18 ∧ s1_18 ≤ 1535) ∧ ((-1) ≤ s2_18 ∧ s2_18 ≤ 24) ∧ (v2_8 < I a1 11) ∧ (I16 p 8 = I a1 11) ∧ (v4_18 = v2_8 * 24 + v3_13) ∧ (I16 a1 11 = I a1 11)) → (I16 p 9 = I a1 6) → fo_D I I16 a1 p v2_8 v3_13 → fo_out (fun k : Nat => so_rc I a1 (k : Int)) (Int.toNat (I a1 6)) (fo_wc I a1 v2_8 v3_13) (I16 (so_fb I16 p 6)) s2_18 → (s1_18 = v4_18) → gv_X (gc_E2 ws0 tb 4 (yX2_build, cX2_build, 7, none) kX2_build) (gv_Q cX2_build none sh (fun r hₚ => (∃ (Iₚ : gr_I) (Jₚ : gr_J), hₚ = gc_h sh Iₚ Jₚ A ∧ gc_Inv ro Iₚ ∧ (∀ q j : Nat, ((q = p ∧ j = 6) ∨ (q = p ∧ j = 7) ∨ (q = p ∧ j = 8) ∨ (q = p ∧ j = 9) ∨ q = (p + 1) ∨ q = (p + 2) ∨ q = (p + 3) ∨ q = (p + 4) ∨ q = (p + 6) ∨ q = (p + 7)) ∨ Iₚ q j = I q j) ∧ (∀ q j : Nat, (False) ∨ Jₚ q j = J q j) ∧ r = none ∧ (gc_FB p (24 * I a1 11) Iₚ) ∧ (Iₚ p 8 = I a1 11) ∧ (Iₚ p 9 = I a1 6) ∧ ¬ Iₚ p 6 = Iₚ p 7 ∧ fo_FC I Iₚ a1 p))) (109, [(0, .inr (.inr (some p))), (1, .inr (.inr (some a1))), (2, .inl v2_8), (3, .inl v3_13), (4, .inl v4_18)], [.inl s2_18, .inl s1_18, .inr (.inr (some (p + 2)))], sh, gc_h sh I16 J17 A) := by
          intro I16 J17 v4_18 s1_18 s2_18 hI16 FI16 FJ17 KFB_I16 m_18 k9_3 k_3 k_4 k_5
          clear hv2_8_13 hv3_13 e0_13 e1_13 e2_13
          obtain ⟨hv2_8_18, hv3_13_18, hv4_18, hs1_18, hs2_18, e0_18, e1_18, e2_18, e3_18⟩ := gz_h9 m_18
          have L184 : ∀ (I21 : gr_I) (J22 : gr_J) , gc_Inv ro I21 → (∀ q j : Nat, ((q = p ∧ j = 6) ∨ (q = p ∧ j = 7) ∨ (q = p ∧ j = 8) ∨ (q = p ∧ j = 9) ∨ q = (p + 1) ∨ q = (p + 2) ∨ q = (p + 3) ∨ q = (p + 4) ∨ q = (p + 6) ∨ q = (p + 7)) ∨ I21 q j = I q j) → (∀ q j : Nat, (False) ∨ J22 q j = J q j) → gc_FB p (24 * I a1 11) I21 → ((0 ≤ v2_8 ∧ v2_8 ≤ 63) ∧ (0 ≤ v3_13 ∧ v3_13 ≤ 23) ∧ (v2_8 < I a1 11) ∧ (I21 p 8 = I a1 11) ∧ (I21 a1 11 = I a1 11)) → (I21 p 9 = I a1 6) → fo_D I I21 a1 p v2_8 (v3_13 - 1) → gv_X (gc_E2 ws0 tb 4 (yX2_build, cX2_build, 7, none) kX2_build) (gv_Q cX2_build none sh (fun r hₚ => (∃ (Iₚ : gr_I) (Jₚ : gr_J), hₚ = gc_h sh Iₚ Jₚ A ∧ gc_Inv ro Iₚ ∧ (∀ q j : Nat, ((q = p ∧ j = 6) ∨ (q = p ∧ j = 7) ∨ (q = p ∧ j = 8) ∨ (q = p ∧ j = 9) ∨ q = (p + 1) ∨ q = (p + 2) ∨ q = (p + 3) ∨ q = (p + 4) ∨ q = (p + 6) ∨ q = (p + 7)) ∨ Iₚ q j = I q j) ∧ (∀ q j : Nat, (False) ∨ Jₚ q j = J q j) ∧ r = none ∧ (gc_FB p (24 * I a1 11) Iₚ) ∧ (Iₚ p 8 = I a1 11) ∧ (Iₚ p 9 = I a1 6) ∧ ¬ Iₚ p 6 = Iₚ p 7 ∧ fo_FC I Iₚ a1 p))) (184, [(0, .inr (.inr (some p))), (1, .inr (.inr (some a1))), (2, .inl v2_8), (3, .inl v3_13)], [], sh, gc_h sh I21 J22 A) := by
            intro I21 J22 hI21 FI21 FJ22 KFB_I21 m_23 k9_6 k_6
            clear hv2_8_18 hv3_13_18 hv4_18 hs1_18 hs2_18 e0_18 e1_18 e2_18 e3_18
            obtain ⟨hv2_8_23, hv3_13_23, e0_23, e1_23, e2_23⟩ := gz_h5 m_23
            refine gv_run 2 true hD (pcₚ := 66) (lvₚ := [(3, .inl (v3_13 + (-1))), (0, .inr (.inr (some p))), (1, .inr (.inr (some a1))), (2, .inl v2_8)]) (stₚ := []) (hₚ := gc_h sh I21 J22 A) (C := ((True ∧ True) ∧ True)) rfl ⟨⟨trivial, trivial⟩, trivial⟩ ?_
            refine gv_pick [1, 2, 3, 0] rfl ?_
            exact ih66 I21 J22 ((v3_13 + (-1))) (by (/-30-/first | (have o1 := gz_sh hv3_13_23; omega) | (simp only [gz_hd] at *; omega))) hI21 FI21 FJ22 KFB_I21 (by (/-31-/first | (and_intros; (have o1 := gz_sh hv2_8_23; omega); (have o1 := gz_sh hv2_8_23; omega); (have o1 := gz_sh hv3_13_23; omega); (have o1 := gz_sh hv3_13_23; omega); (have o1 := gz_sh e0_23; omega); (have o1 := gz_sh e1_23; omega); (have o1 := gz_sh e2_23; omega)) | (simp only [gz_hd] at *; omega))) k9_6 (by (/-32-/first | omega | (simp only [gz_hd] at *; omega))) (by rw [show v3_13 + (-1) = v3_13 - 1 from by (/-33-/first | omega | (simp only [gz_hd] at *; omega))]; exact k_6)
          refine gv_iast hD rfl S_p_2 ⟨by decide, (gz_sh B_p_2)⟩ ⟨by (/-34-/first | (have o1 := gz_sh hv4_18; omega) | (simp only [gz_hd] at *; omega)), by (/-35-/first | (have o1 := gz_sh hv4_18; omega) | (simp only [gz_hd] at *; omega))⟩ ?_
          refine gc_st hI16 S_p_2 rfl (gz_sh R_p_2) (lo := (-1)) (hi := 24) rfl rfl (by (/-36-/first | (have o1 := gz_sh hs2_18; omega) | (simp only [gz_hd] at *; omega))) (by (/-37-/first | (have o1 := gz_sh hs2_18; omega) | (simp only [gz_hd] at *; omega))) (fun I26 hI26 q27 p27 => ?_)
          have e27 : I26 (p + 2) (Int.toNat v4_18) = s2_18 := by rw [← k_5]; exact q27
          have FI26 := gc_frs (W := fun q j => (q = p ∧ j = 6) ∨ (q = p ∧ j = 7) ∨ (q = p ∧ j = 8) ∨ (q = p ∧ j = 9) ∨ q = (p + 1) ∨ q = (p + 2) ∨ q = (p + 3) ∨ q = (p + 4) ∨ q = (p + 6) ∨ q = (p + 7)) FI16 (Or.inr (Or.inr (Or.inr (Or.inr (Or.inr (Or.inl rfl)))))) p27
          have t28 := gz_hi (p27 a1 11 (fun h => absurd h.1 (gz_sh N_a1__p_2)))
          have t29 := gz_hi (p27 p 8 (fun h => absurd h.1 (gz_sh N_p__p_2)))
          have KFB_I26 := gc_FB_fr KFB_I16 (fun k => p27 (p + 4) k (fun h => absurd h.1 (gz_sh N_p_4__p_2))) (fun k => p27 (p + 3) k (fun h => absurd h.1 (gz_sh N_p_3__p_2)))
          show gv_X _ _ (110, [(0, .inr (.inr (some p))), (1, .inr (.inr (some a1))), (2, .inl v2_8), (3, .inl v3_13), (4, .inl v4_18)], [], sh, gc_h sh I26 J17 A)
          refine gv_run 1 true hD (pcₚ := 111) (lvₚ := [(0, .inr (.inr (some p))), (1, .inr (.inr (some a1))), (2, .inl v2_8), (3, .inl v3_13), (4, .inl v4_18)]) (stₚ := [.inr (.inr (some p))]) (hₚ := gc_h sh I26 J17 A) (C := (True ∧ True)) rfl ⟨trivial, trivial⟩ ?_
          refine gv_get hD rfl rfl S_p ⟨by decide, (gz_sh B_p)⟩ (gc_hA S_p rfl A_p_2) ?_
          show gv_X _ _ (114, [(0, .inr (.inr (some p))), (1, .inr (.inr (some a1))), (2, .inl v2_8), (3, .inl v3_13), (4, .inl v4_18)], [.inr (.inr (some (p + 2)))], sh, gc_h sh I26 J17 A)
          refine gv_run 1 true hD (pcₚ := 116) (lvₚ := [(0, .inr (.inr (some p))), (1, .inr (.inr (some a1))), (2, .inl v2_8), (3, .inl v3_13), (4, .inl v4_18)]) (stₚ := [.inl v4_18, .inr (.inr (some (p + 2)))]) (hₚ := gc_h sh I26 J17 A) (C := (True ∧ True)) rfl ⟨trivial, trivial⟩ ?_
          refine gv_iald hD rfl S_p_2 rfl ⟨by decide, (gz_sh B_p_2)⟩ ⟨by (/-38-/first | (have o1 := gz_sh hv4_18; omega) | (simp only [gz_hd] at *; omega)), by (/-39-/first | (have o1 := gz_sh hv4_18; omega) | (simp only [gz_hd] at *; omega))⟩ (gc_iI S_p_2 rfl) ?_
          show gv_X _ _ (117, [(0, .inr (.inr (some p))), (1, .inr (.inr (some a1))), (2, .inl v2_8), (3, .inl v3_13), (4, .inl v4_18)], [.inl (I26 (p + 2) (Int.toNat v4_18))], sh, gc_h sh I26 J17 A)
          refine gv_if_le (t := 184) hD rfl rfl ⟨by (/-40-/first | (have o1 := gz_sh hs2_18; omega) | (simp only [gz_hd] at *; omega)), by (/-41-/first | (have o1 := gz_sh hs2_18; omega) | (simp only [gz_hd] at *; omega))⟩ (fun c31 => ?_) (fun c31 => ?_)
          · show gv_X _ _ (184, [(0, .inr (.inr (some p))), (1, .inr (.inr (some a1))), (2, .inl v2_8), (3, .inl v3_13), (4, .inl v4_18)], [], sh, gc_h sh I26 J17 A)
            refine gv_pick [0, 1, 2, 3] rfl ?_
            exact L184 I26 J17 hI26 FI26 FJ17 KFB_I26 (by (/-42-/first | (and_intros; (have o1 := gz_sh hv2_8_18; omega); (have o1 := gz_sh hv2_8_18; omega); (have o1 := gz_sh hv3_13_18; omega); (have o1 := gz_sh hv3_13_18; omega); (have o1 := gz_sh e0_18; omega); (have o1 := gz_sh e1_18; have o2 := gz_sh t29; omega); (have o1 := gz_sh e3_18; have o2 := gz_sh t28; omega)) | (simp only [gz_hd] at *; omega))) ((p27 p 9 (fun h => absurd h.1 (by (/-43-/first | (have o1 := gz_sh N_p__p_2; omega) | (simp only [gz_hd] at *; omega))))).trans k9_3) (fo_D_n k_3 (by (/-44-/first | (have o1 := gz_sh hv2_8_18; omega) | (simp only [gz_hd] at *; omega))) ⟨by (/-45-/first | (have o1 := gz_sh hv3_13_18; omega) | (simp only [gz_hd] at *; omega)), by (/-46-/first | (have o1 := gz_sh hv3_13_18; omega) | (simp only [gz_hd] at *; omega))⟩ (fun w9 => (show 0 ≤ fo_cs I a1 w9 ∧ fo_cs I a1 w9 ≤ 24 from gc_in hI (gz_sh R_a1_13) rfl rfl).2) (by rw [p27 p 6 (fun h => absurd h.1 (by (/-47-/first | (have o1 := gz_sh N_p__p_2; omega) | (simp only [gz_hd] at *; omega)))), p27 p 7 (fun h => absurd h.1 (by (/-48-/first | (have o1 := gz_sh N_p__p_2; omega) | (simp only [gz_hd] at *; omega))))]; exact k_3.1) (fun j hj => p27 _ j (fun h => hj (by have h9 := h.2; (/-49-/first | (have o1 := gz_sh e2_18; have o2 := gz_sh hv4_18; omega) | (simp only [gz_hd] at *; omega))))) (fun j _ => p27 _ j (fun h => absurd h.1 (by (/-50-/first | omega | (simp only [gz_hd] at *; omega))))) (fun j _ => p27 _ j (fun h => absurd h.1 (by (/-51-/first | (have o1 := gz_sh N_p_3__p_2; omega) | (simp only [gz_hd] at *; omega))))) (fun j => p27 _ j (fun h => absurd h.1 (by (/-52-/first | (have o1 := gz_sh N_p_4__p_2; omega) | (simp only [gz_hd] at *; omega))))) (by unfold fo_F1; rw [(show Int.toNat (24 * v2_8 + v3_13) = Int.toNat s1_18 from by (/-53-/first | (have o1 := gz_sh e2_18; have o2 := gz_sh hv4_18; omega) | (simp only [gz_hd] at *; omega))), q27]; exact fo_out_cg k_4 (fun h9 => absurd h9 (by (/-54-/first | (have o1 := gz_sh hs2_18; omega) | (simp only [gz_hd] at *; omega))))) (fun j => (show (-1) ≤ I16 (p + 2) j ∧ I16 (p + 2) j ≤ 24 from gc_in2 hI16 (gz_sh R_p_2) rfl rfl rfl).2) (by rw [(show Int.toNat (24 * v2_8 + v3_13) = Int.toNat s1_18 from by (/-55-/first | (have o1 := gz_sh e2_18; have o2 := gz_sh hv4_18; omega) | (simp only [gz_hd] at *; omega))), show I26 (p + 2) (Int.toNat s1_18) = s2_18 from q27]; (/-56-/first | (have o1 := gz_sh hs2_18; omega) | (simp only [gz_hd] at *; omega))))
          · show gv_X _ _ (120, [(0, .inr (.inr (some p))), (1, .inr (.inr (some a1))), (2, .inl v2_8), (3, .inl v3_13), (4, .inl v4_18)], [], sh, gc_h sh I26 J17 A)
            refine gv_run 1 true hD (pcₚ := 121) (lvₚ := [(0, .inr (.inr (some p))), (1, .inr (.inr (some a1))), (2, .inl v2_8), (3, .inl v3_13), (4, .inl v4_18)]) (stₚ := [.inr (.inr (some p))]) (hₚ := gc_h sh I26 J17 A) (C := (True ∧ True)) rfl ⟨trivial, trivial⟩ ?_
            obtain ⟨f32_, hq_f32_, S_f32, R_f32, B_f32, D_f32⟩ := gc_sw (p := p) (d := 6) (s := 1) (z := I26 p 6) (show 0 ≤ I26 p 6 ∧ I26 p 6 ≤ 1 from gc_in2 hI26 (gz_sh R_p) rfl rfl rfl) S_p_6 (gz_sh R_p_6) (gz_sh B_p_6) S_p_7 (gz_sh R_p_7) (gz_sh B_p_7)
            refine gv_get hD rfl rfl S_p ⟨by decide, (gz_sh B_p)⟩ (gc_hS (n := 6) S_p rfl hq_f32_) ?_
            show gv_X _ _ (124, [(0, .inr (.inr (some p))), (1, .inr (.inr (some a1))), (2, .inl v2_8), (3, .inl v3_13), (4, .inl v4_18)], [.inr (.inr (some f32_))], sh, gc_h sh I26 J17 A)
            refine gv_run 2 true hD (pcₚ := 126) (lvₚ := [(0, .inr (.inr (some p))), (1, .inr (.inr (some a1))), (2, .inl v2_8), (3, .inl v3_13), (4, .inl v4_18)]) (stₚ := [.inr (.inr (some p)), .inl 0, .inr (.inr (some f32_))]) (hₚ := gc_h sh I26 J17 A) (C := ((True ∧ True) ∧ True)) rfl ⟨⟨trivial, trivial⟩, trivial⟩ ?_
            refine gv_get hD rfl rfl S_p ⟨by decide, (gz_sh B_p)⟩ (gc_hA S_p rfl A_p_1) ?_
            show gv_X _ _ (129, [(0, .inr (.inr (some p))), (1, .inr (.inr (some a1))), (2, .inl v2_8), (3, .inl v3_13), (4, .inl v4_18)], [.inr (.inr (some (p + 1))), .inl 0, .inr (.inr (some f32_))], sh, gc_h sh I26 J17 A)
            refine gv_run 4 true hD (pcₚ := 135) (lvₚ := [(0, .inr (.inr (some p))), (1, .inr (.inr (some a1))), (2, .inl v2_8), (3, .inl v3_13), (4, .inl v4_18)]) (stₚ := [.inr (.inr (some p)), .inl (v4_18 * 24), .inr (.inr (some (p + 1))), .inl 0, .inr (.inr (some f32_))]) (hₚ := gc_h sh I26 J17 A) (C := ((((True ∧ True) ∧ True) ∧ True) ∧ True)) rfl ⟨⟨⟨⟨trivial, trivial⟩, trivial⟩, trivial⟩, trivial⟩ ?_
            refine gv_get hD rfl rfl S_p ⟨by decide, (gz_sh B_p)⟩ (gc_hA S_p rfl A_p_2) ?_
            show gv_X _ _ (138, [(0, .inr (.inr (some p))), (1, .inr (.inr (some a1))), (2, .inl v2_8), (3, .inl v3_13), (4, .inl v4_18)], [.inr (.inr (some (p + 2))), .inl (v4_18 * 24), .inr (.inr (some (p + 1))), .inl 0, .inr (.inr (some f32_))], sh, gc_h sh I26 J17 A)
            refine gv_run 1 true hD (pcₚ := 140) (lvₚ := [(0, .inr (.inr (some p))), (1, .inr (.inr (some a1))), (2, .inl v2_8), (3, .inl v3_13), (4, .inl v4_18)]) (stₚ := [.inl v4_18, .inr (.inr (some (p + 2))), .inl (v4_18 * 24), .inr (.inr (some (p + 1))), .inl 0, .inr (.inr (some f32_))]) (hₚ := gc_h sh I26 J17 A) (C := (True ∧ True)) rfl ⟨trivial, trivial⟩ ?_
            refine gv_iald hD rfl S_p_2 rfl ⟨by decide, (gz_sh B_p_2)⟩ ⟨by (/-57-/first | (have o1 := gz_sh hv4_18; omega) | (simp only [gz_hd] at *; omega)), by (/-58-/first | (have o1 := gz_sh hv4_18; omega) | (simp only [gz_hd] at *; omega))⟩ (gc_iI S_p_2 rfl) ?_
            show gv_X _ _ (141, [(0, .inr (.inr (some p))), (1, .inr (.inr (some a1))), (2, .inl v2_8), (3, .inl v3_13), (4, .inl v4_18)], [.inl (I26 (p + 2) (Int.toNat v4_18)), .inl (v4_18 * 24), .inr (.inr (some (p + 1))), .inl 0, .inr (.inr (some f32_))], sh, gc_h sh I26 J17 A)
            refine gv_copy hD rfl (gc_lC2_71 hws) (Nat.le_of_ble_eq_true rfl) ⟨B_f32, (gz_sh B_p_1)⟩ S_f32 S_p_1 (by decide) ⟨by decide, by decide⟩ ⟨by (/-59-/first | omega | (simp only [gz_hd] at *; omega)), by (/-60-/first | (have o1 := gz_sh hv4_18; omega) | (simp only [gz_hd] at *; omega)), by (/-61-/first | omega | (simp only [gz_hd] at *; omega))⟩ (by (/-62-/first | (have o1 := gz_sh hs2_18; omega) | (simp only [gz_hd] at *; omega))) (by (/-63-/first | (have o1 := gz_sh hs2_18; have o2 := gz_sh hv4_18; omega) | (simp only [gz_hd] at *; omega))) (fun _ k _ => by rw [gc_iI S_f32 rfl]; have h9 := (show (-128) ≤ I26 f32_ (Int.toNat 0 + k) ∧ I26 f32_ (Int.toNat 0 + k) ≤ 127 from gc_in2 hI26 R_f32 rfl rfl rfl); exact ⟨by (/-64-/first | omega | (simp only [gz_hd] at *; omega)), by (/-65-/first | omega | (simp only [gz_hd] at *; omega))⟩) ?_
            refine gc_cp hI26 S_f32 S_p_1 (by decide) (fun j hj => by have h9 := (show (-128) ≤ I26 f32_ (Int.toNat 0 + j) ∧ I26 f32_ (Int.toNat 0 + j) ≤ 127 from gc_in2 hI26 R_f32 rfl rfl rfl); rw [(gz_sh R_p_1)]; exact ⟨by show (-128) ≤ _; (/-66-/first | omega | (simp only [gz_hd] at *; omega)), by show _ ≤ 127; (/-67-/first | omega | (simp only [gz_hd] at *; omega))⟩) (fun I36 hI36 p35 q35 => ?_)
            have FI36 := gc_frp (W := fun q j => (q = p ∧ j = 6) ∨ (q = p ∧ j = 7) ∨ (q = p ∧ j = 8) ∨ (q = p ∧ j = 9) ∨ q = (p + 1) ∨ q = (p + 2) ∨ q = (p + 3) ∨ q = (p + 4) ∨ q = (p + 6) ∨ q = (p + 7)) (V := fun q j => q = (p + 1) ∧ Int.toNat (v4_18 * 24) ≤ j ∧ j < Int.toNat (v4_18 * 24) + Int.toNat ((I26 (p + 2) (Int.toNat v4_18)))) FI26 (fun q j h => (Or.inr (Or.inr (Or.inr (Or.inr (Or.inl h.1)))))) p35
            have KFB_I36 := gc_FB_fr KFB_I26 (fun k => p35 (p + 4) k (fun h => absurd h.1 (gz_sh N_p_4__p_1))) (fun k => p35 (p + 3) k (fun h => absurd h.1 (gz_sh N_p_3__p_1)))
            have t38 := gz_hi (p35 a1 11 (fun h => absurd h.1 (gz_sh N_a1__p_1)))
            have t39 := gz_hi (p35 p 8 (fun h => absurd h.1 (gz_sh N_p__p_1)))
            have t40 := gz_hi (p35 (p + 2) (Int.toNat v4_18) (fun h => absurd h.1 (gz_sh N_p_2__p_1)))
            show gv_X _ _ (144, [(0, .inr (.inr (some p))), (1, .inr (.inr (some a1))), (2, .inl v2_8), (3, .inl v3_13), (4, .inl v4_18)], [], sh, gc_h sh I36 J17 A)
            refine gv_run 1 true hD (pcₚ := 145) (lvₚ := [(0, .inr (.inr (some p))), (1, .inr (.inr (some a1))), (2, .inl v2_8), (3, .inl v3_13), (4, .inl v4_18)]) (stₚ := [.inr (.inr (some p))]) (hₚ := gc_h sh I36 J17 A) (C := (True ∧ True)) rfl ⟨trivial, trivial⟩ ?_
            obtain ⟨f43_, hq_f43_, S_f43, R_f43, B_f43, D_f43⟩ := gc_sw (p := p) (d := 6) (s := 1) (z := I36 p 6) (show 0 ≤ I36 p 6 ∧ I36 p 6 ≤ 1 from gc_in2 hI36 (gz_sh R_p) rfl rfl rfl) S_p_6 (gz_sh R_p_6) (gz_sh B_p_6) S_p_7 (gz_sh R_p_7) (gz_sh B_p_7)
            refine gv_get hD rfl rfl S_p ⟨by decide, (gz_sh B_p)⟩ (gc_hS (n := 6) S_p rfl hq_f43_) ?_
            show gv_X _ _ (148, [(0, .inr (.inr (some p))), (1, .inr (.inr (some a1))), (2, .inl v2_8), (3, .inl v3_13), (4, .inl v4_18)], [.inr (.inr (some f43_))], sh, gc_h sh I36 J17 A)
            refine gv_run 2 true hD (pcₚ := 150) (lvₚ := [(0, .inr (.inr (some p))), (1, .inr (.inr (some a1))), (2, .inl v2_8), (3, .inl v3_13), (4, .inl v4_18)]) (stₚ := [.inr (.inr (some p)), .inl 0, .inr (.inr (some f43_))]) (hₚ := gc_h sh I36 J17 A) (C := ((True ∧ True) ∧ True)) rfl ⟨⟨trivial, trivial⟩, trivial⟩ ?_
            refine gv_get hD rfl rfl S_p ⟨by decide, (gz_sh B_p)⟩ (gc_hA S_p rfl A_p_2) ?_
            show gv_X _ _ (153, [(0, .inr (.inr (some p))), (1, .inr (.inr (some a1))), (2, .inl v2_8), (3, .inl v3_13), (4, .inl v4_18)], [.inr (.inr (some (p + 2))), .inl 0, .inr (.inr (some f43_))], sh, gc_h sh I36 J17 A)
            refine gv_run 1 true hD (pcₚ := 155) (lvₚ := [(0, .inr (.inr (some p))), (1, .inr (.inr (some a1))), (2, .inl v2_8), (3, .inl v3_13), (4, .inl v4_18)]) (stₚ := [.inl v4_18, .inr (.inr (some (p + 2))), .inl 0, .inr (.inr (some f43_))]) (hₚ := gc_h sh I36 J17 A) (C := (True ∧ True)) rfl ⟨trivial, trivial⟩ ?_
            refine gv_iald hD rfl S_p_2 rfl ⟨by decide, (gz_sh B_p_2)⟩ ⟨by (/-68-/first | (have o1 := gz_sh hv4_18; omega) | (simp only [gz_hd] at *; omega)), by (/-69-/first | (have o1 := gz_sh hv4_18; omega) | (simp only [gz_hd] at *; omega))⟩ (gc_iI S_p_2 rfl) ?_
            show gv_X _ _ (156, [(0, .inr (.inr (some p))), (1, .inr (.inr (some a1))), (2, .inl v2_8), (3, .inl v3_13), (4, .inl v4_18)], [.inl (I36 (p + 2) (Int.toNat v4_18)), .inl 0, .inr (.inr (some f43_))], sh, gc_h sh I36 J17 A)
            obtain ⟨r46, h46, E46, P46⟩ := d_X2_hash_p (ws0 := ws0) (tb := tb) hws htb sh ro I36 J17 A hI36  24 f43_ 0 ((I36 (p + 2) (Int.toNat v4_18)))  S_f43 R_f43 B_f43 (by decide)  ⟨by (/-70-/first | omega | (simp only [gz_hd] at *; omega)), by (/-71-/first | omega | (simp only [gz_hd] at *; omega))⟩ ⟨by (/-72-/first | (have o1 := gz_sh t40; omega) | (simp only [gz_hd] at *; omega)), by (/-73-/first | (have o1 := gz_sh hs2_18; have o2 := gz_sh t40; omega) | (simp only [gz_hd] at *; omega))⟩ (by (/-74-/first | (have o1 := gz_sh hs2_18; have o2 := gz_sh t40; omega) | (simp only [gz_hd] at *; omega))) 
            obtain ⟨rfl, ⟨z46, rfl, q46⟩⟩ := P46
            replace q46 := gz_hi q46
            refine gv_callS hD rfl (As := [.inr (.inr (some f43_)), .inl 0, .inl (I36 (p + 2) (Int.toNat v4_18))]) (st := []) rfl (gc_lS2 hws rfl) (Nat.le_of_ble_eq_true rfl) (gz_Ev_mono (d := 1) (by decide) E46) ?_
            show gv_X _ _ (159, [(0, .inr (.inr (some p))), (1, .inr (.inr (some a1))), (2, .inl v2_8), (3, .inl v3_13), (4, .inl v4_18)], [.inl z46], sh, gc_h sh I36 J17 A)
            refine gv_run 2 true hD (pcₚ := 162) (lvₚ := [(6, .inl z46), (0, .inr (.inr (some p))), (1, .inr (.inr (some a1))), (2, .inl v2_8), (3, .inl v3_13), (4, .inl v4_18)]) (stₚ := [.inr (.inr (some p))]) (hₚ := gc_h sh I36 J17 A) (C := ((True ∧ True) ∧ True)) rfl ⟨⟨trivial, trivial⟩, trivial⟩ ?_
            refine gv_get hD rfl rfl S_p ⟨by decide, (gz_sh B_p)⟩ (gc_hA S_p rfl A_p_3) ?_
            show gv_X _ _ (165, [(6, .inl z46), (0, .inr (.inr (some p))), (1, .inr (.inr (some a1))), (2, .inl v2_8), (3, .inl v3_13), (4, .inl v4_18)], [.inr (.inr (some (p + 3)))], sh, gc_h sh I36 J17 A)
            refine gv_run 2 true hD (pcₚ := 168) (lvₚ := [(6, .inl z46), (0, .inr (.inr (some p))), (1, .inr (.inr (some a1))), (2, .inl v2_8), (3, .inl v3_13), (4, .inl v4_18)]) (stₚ := [.inr (.inr (some p)), .inl v4_18, .inr (.inr (some (p + 3)))]) (hₚ := gc_h sh I36 J17 A) (C := ((True ∧ True) ∧ True)) rfl ⟨⟨trivial, trivial⟩, trivial⟩ ?_
            refine gv_get hD rfl rfl S_p ⟨by decide, (gz_sh B_p)⟩ (gc_hA S_p rfl A_p_4) ?_
            show gv_X _ _ (171, [(6, .inl z46), (0, .inr (.inr (some p))), (1, .inr (.inr (some a1))), (2, .inl v2_8), (3, .inl v3_13), (4, .inl v4_18)], [.inr (.inr (some (p + 4))), .inl v4_18, .inr (.inr (some (p + 3)))], sh, gc_h sh I36 J17 A)
            refine gv_run 1 true hD (pcₚ := 173) (lvₚ := [(6, .inl z46), (0, .inr (.inr (some p))), (1, .inr (.inr (some a1))), (2, .inl v2_8), (3, .inl v3_13), (4, .inl v4_18)]) (stₚ := [.inl z46, .inr (.inr (some (p + 4))), .inl v4_18, .inr (.inr (some (p + 3)))]) (hₚ := gc_h sh I36 J17 A) (C := (True ∧ True)) rfl ⟨trivial, trivial⟩ ?_
            have f47 := gz_hi ((show (-1) ≤ I36 (p + 4) (Int.toNat z46) ∧ I36 (p + 4) (Int.toNat z46) ≤ 1535 from gc_in2 hI36 (gz_sh R_p_4) rfl rfl rfl))
            refine gv_iald hD rfl S_p_4 rfl ⟨by decide, (gz_sh B_p_4)⟩ ⟨by (/-75-/first | (have o1 := gz_sh q46; omega) | (simp only [gz_hd] at *; omega)), by (/-76-/first | (have o1 := gz_sh q46; omega) | (simp only [gz_hd] at *; omega))⟩ (gc_iI S_p_4 rfl) ?_
            show gv_X _ _ (174, [(6, .inl z46), (0, .inr (.inr (some p))), (1, .inr (.inr (some a1))), (2, .inl v2_8), (3, .inl v3_13), (4, .inl v4_18)], [.inl (I36 (p + 4) (Int.toNat z46)), .inl v4_18, .inr (.inr (some (p + 3)))], sh, gc_h sh I36 J17 A)
            have t48 := gz_hi ((KFB_I36).1 (Int.toNat z46) (by (/-77-/first | (have o1 := gz_sh q46; omega) | (simp only [gz_hd] at *; omega))))
            refine gv_iast hD rfl S_p_3 ⟨by decide, (gz_sh B_p_3)⟩ ⟨by (/-78-/first | (have o1 := gz_sh hv4_18; omega) | (simp only [gz_hd] at *; omega)), by (/-79-/first | (have o1 := gz_sh hv4_18; omega) | (simp only [gz_hd] at *; omega))⟩ ?_
            refine gc_st hI36 S_p_3 rfl (gz_sh R_p_3) (lo := (-1)) (hi := 1535) rfl rfl (by (/-80-/first | (have o1 := gz_sh f47; omega) | (simp only [gz_hd] at *; omega))) (by (/-81-/first | (have o1 := gz_sh f47; omega) | (simp only [gz_hd] at *; omega))) (fun I49 hI49 q50 p50 => ?_)
            have FI49 := gc_frs (W := fun q j => (q = p ∧ j = 6) ∨ (q = p ∧ j = 7) ∨ (q = p ∧ j = 8) ∨ (q = p ∧ j = 9) ∨ q = (p + 1) ∨ q = (p + 2) ∨ q = (p + 3) ∨ q = (p + 4) ∨ q = (p + 6) ∨ q = (p + 7)) FI36 (Or.inr (Or.inr (Or.inr (Or.inr (Or.inr (Or.inr (Or.inl rfl))))))) p50
            have t51 := gz_hi (p50 a1 11 (fun h => absurd h.1 (gz_sh N_a1__p_3)))
            have t52 := gz_hi (p50 p 8 (fun h => absurd h.1 (gz_sh N_p__p_3)))
            have t53 := gz_hi (p50 (p + 2) (Int.toNat v4_18) (fun h => absurd h.1 (gz_sh N_p_2__p_3)))
            have KFB_I49 : gc_FB p (24 * I a1 11) I49 := gc_FB_c KFB_I36 p50 (by (/-82-/first | (have o1 := gz_sh t48; omega) | (simp only [gz_hd] at *; omega)))
            show gv_X _ _ (175, [(6, .inl z46), (0, .inr (.inr (some p))), (1, .inr (.inr (some a1))), (2, .inl v2_8), (3, .inl v3_13), (4, .inl v4_18)], [], sh, gc_h sh I49 J17 A)
            refine gv_run 1 true hD (pcₚ := 176) (lvₚ := [(6, .inl z46), (0, .inr (.inr (some p))), (1, .inr (.inr (some a1))), (2, .inl v2_8), (3, .inl v3_13), (4, .inl v4_18)]) (stₚ := [.inr (.inr (some p))]) (hₚ := gc_h sh I49 J17 A) (C := (True ∧ True)) rfl ⟨trivial, trivial⟩ ?_
            refine gv_get hD rfl rfl S_p ⟨by decide, (gz_sh B_p)⟩ (gc_hA S_p rfl A_p_4) ?_
            show gv_X _ _ (179, [(6, .inl z46), (0, .inr (.inr (some p))), (1, .inr (.inr (some a1))), (2, .inl v2_8), (3, .inl v3_13), (4, .inl v4_18)], [.inr (.inr (some (p + 4)))], sh, gc_h sh I49 J17 A)
            refine gv_run 2 true hD (pcₚ := 183) (lvₚ := [(6, .inl z46), (0, .inr (.inr (some p))), (1, .inr (.inr (some a1))), (2, .inl v2_8), (3, .inl v3_13), (4, .inl v4_18)]) (stₚ := [.inl v4_18, .inl z46, .inr (.inr (some (p + 4)))]) (hₚ := gc_h sh I49 J17 A) (C := ((True ∧ True) ∧ True)) rfl ⟨⟨trivial, trivial⟩, trivial⟩ ?_
            refine gv_iast hD rfl S_p_4 ⟨by decide, (gz_sh B_p_4)⟩ ⟨by (/-83-/first | (have o1 := gz_sh q46; omega) | (simp only [gz_hd] at *; omega)), by (/-84-/first | (have o1 := gz_sh q46; omega) | (simp only [gz_hd] at *; omega))⟩ ?_
            refine gc_st hI49 S_p_4 rfl (gz_sh R_p_4) (lo := (-1)) (hi := 1535) rfl rfl (by (/-85-/first | (have o1 := gz_sh hv4_18; omega) | (simp only [gz_hd] at *; omega))) (by (/-86-/first | (have o1 := gz_sh hv4_18; omega) | (simp only [gz_hd] at *; omega))) (fun I54 hI54 q55 p55 => ?_)
            have FI54 := gc_frs (W := fun q j => (q = p ∧ j = 6) ∨ (q = p ∧ j = 7) ∨ (q = p ∧ j = 8) ∨ (q = p ∧ j = 9) ∨ q = (p + 1) ∨ q = (p + 2) ∨ q = (p + 3) ∨ q = (p + 4) ∨ q = (p + 6) ∨ q = (p + 7)) FI49 (Or.inr (Or.inr (Or.inr (Or.inr (Or.inr (Or.inr (Or.inr (Or.inl rfl)))))))) p55
            have t56 := gz_hi (p55 a1 11 (fun h => absurd h.1 (gz_sh N_a1__p_4)))
            have t57 := gz_hi (p55 p 8 (fun h => absurd h.1 (gz_sh N_p__p_4)))
            have t58 := gz_hi (p55 (p + 2) (Int.toNat v4_18) (fun h => absurd h.1 (gz_sh N_p_2__p_4)))
            have KFB_I54 : gc_FB p (24 * I a1 11) I54 := gc_FB_h KFB_I49 p55 (by (/-87-/first | (have o1 := gz_sh e0_18; have o2 := gz_sh e2_18; have o3 := gz_sh hv3_13_18; omega) | (simp only [gz_hd] at *; omega)))
            show gv_X _ _ (184, [(6, .inl z46), (0, .inr (.inr (some p))), (1, .inr (.inr (some a1))), (2, .inl v2_8), (3, .inl v3_13), (4, .inl v4_18)], [], sh, gc_h sh I54 J17 A)
            refine gv_pick [1, 2, 3, 4] rfl ?_
            exact L184 I54 J17 hI54 FI54 FJ17 KFB_I54 (by (/-88-/first | (and_intros; (have o1 := gz_sh hv2_8_18; omega); (have o1 := gz_sh hv2_8_18; omega); (have o1 := gz_sh hv3_13_18; omega); (have o1 := gz_sh hv3_13_18; omega); (have o1 := gz_sh e0_18; omega); (have o1 := gz_sh e1_18; have o2 := gz_sh t29; have o3 := gz_sh t39; have o4 := gz_sh t52; have o5 := gz_sh t57; omega); (have o1 := gz_sh e3_18; have o2 := gz_sh t28; have o3 := gz_sh t38; have o4 := gz_sh t51; have o5 := gz_sh t56; omega)) | (simp only [gz_hd] at *; omega))) (((p55 p 9 (fun h => absurd h.1 (by (/-89-/first | (have o1 := gz_sh N_p__p_4; omega) | (simp only [gz_hd] at *; omega))))).trans ((p50 p 9 (fun h => absurd h.1 (by (/-90-/first | (have o1 := gz_sh N_p__p_3; omega) | (simp only [gz_hd] at *; omega))))).trans ((p35 p 9 (fun h => absurd h.1 (by (/-91-/first | (have o1 := gz_sh N_p__p_1; omega) | (simp only [gz_hd] at *; omega))))).trans (p27 p 9 (fun h => absurd h.1 (by (/-92-/first | (have o1 := gz_sh N_p__p_2; omega) | (simp only [gz_hd] at *; omega)))))))).trans k9_3) (fo_D_k (k := Int.toNat z46) k_3 (by (/-93-/first | (have o1 := gz_sh hv2_8_18; omega) | (simp only [gz_hd] at *; omega))) ⟨by (/-94-/first | (have o1 := gz_sh hv3_13_18; omega) | (simp only [gz_hd] at *; omega)), by (/-95-/first | (have o1 := gz_sh hv3_13_18; omega) | (simp only [gz_hd] at *; omega))⟩ (fun w9 => (show 0 ≤ fo_cs I a1 w9 ∧ fo_cs I a1 w9 ≤ 24 from gc_in hI (gz_sh R_a1_13) rfl rfl).2) (by rw [((p55 p 6 (fun h => absurd h.1 (by (/-96-/first | (have o1 := gz_sh N_p__p_4; omega) | (simp only [gz_hd] at *; omega))))).trans ((p50 p 6 (fun h => absurd h.1 (by (/-97-/first | (have o1 := gz_sh N_p__p_3; omega) | (simp only [gz_hd] at *; omega))))).trans ((p35 p 6 (fun h => absurd h.1 (by (/-98-/first | (have o1 := gz_sh N_p__p_1; omega) | (simp only [gz_hd] at *; omega))))).trans (p27 p 6 (fun h => absurd h.1 (by (/-99-/first | (have o1 := gz_sh N_p__p_2; omega) | (simp only [gz_hd] at *; omega)))))))), ((p55 p 7 (fun h => absurd h.1 (by (/-100-/first | (have o1 := gz_sh N_p__p_4; omega) | (simp only [gz_hd] at *; omega))))).trans ((p50 p 7 (fun h => absurd h.1 (by (/-101-/first | (have o1 := gz_sh N_p__p_3; omega) | (simp only [gz_hd] at *; omega))))).trans ((p35 p 7 (fun h => absurd h.1 (by (/-102-/first | (have o1 := gz_sh N_p__p_1; omega) | (simp only [gz_hd] at *; omega))))).trans (p27 p 7 (fun h => absurd h.1 (by (/-103-/first | (have o1 := gz_sh N_p__p_2; omega) | (simp only [gz_hd] at *; omega))))))))]; exact k_3.1) (fun j hj => (p55 _ j (fun h => absurd h.1 (by (/-104-/first | (have o1 := gz_sh N_p_2__p_4; omega) | (simp only [gz_hd] at *; omega))))).trans ((p50 _ j (fun h => absurd h.1 (by (/-105-/first | (have o1 := gz_sh N_p_2__p_3; omega) | (simp only [gz_hd] at *; omega))))).trans ((p35 _ j (fun h => absurd h.1 (by (/-106-/first | (have o1 := gz_sh N_p_2__p_1; omega) | (simp only [gz_hd] at *; omega))))).trans (p27 _ j (fun h => hj (by have h9 := h.2; (/-107-/first | (have o1 := gz_sh e2_18; have o2 := gz_sh hv4_18; omega) | (simp only [gz_hd] at *; omega)))))))) (fun j hj => (p55 _ j (fun h => absurd h.1 (by (/-108-/first | omega | (simp only [gz_hd] at *; omega))))).trans ((p50 _ j (fun h => absurd h.1 (by (/-109-/first | omega | (simp only [gz_hd] at *; omega))))).trans ((p35 _ j (fun h => hj (by have h9 := h.2; (/-110-/first | (and_intros; (have o1 := gz_sh e2_18; have o2 := gz_sh hs2_18; have o3 := gz_sh hv4_18; have o4 := gz_sh t40; have o5 := gz_sh t53; have o6 := gz_sh t58; omega); (have o1 := gz_sh e2_18; have o2 := gz_sh hs2_18; have o3 := gz_sh hv4_18; have o4 := gz_sh t40; have o5 := gz_sh t53; have o6 := gz_sh t58; omega)) | (simp only [gz_hd] at *; omega))))).trans (p27 _ j (fun h => absurd h.1 (by (/-111-/first | omega | (simp only [gz_hd] at *; omega)))))))) (fun j hj => (p55 _ j (fun h => absurd h.1 (by (/-112-/first | omega | (simp only [gz_hd] at *; omega))))).trans ((p50 _ j (fun h => hj (by have h9 := h.2; (/-113-/first | (have o1 := gz_sh e2_18; have o2 := gz_sh hv4_18; omega) | (simp only [gz_hd] at *; omega))))).trans ((p35 _ j (fun h => absurd h.1 (by (/-114-/first | (have o1 := gz_sh N_p_3__p_1; omega) | (simp only [gz_hd] at *; omega))))).trans (p27 _ j (fun h => absurd h.1 (by (/-115-/first | (have o1 := gz_sh N_p_3__p_2; omega) | (simp only [gz_hd] at *; omega)))))))) (fun j hj => (p55 _ j (fun h => hj h.2)).trans ((p50 _ j (fun h => absurd h.1 (by (/-116-/first | omega | (simp only [gz_hd] at *; omega))))).trans ((p35 _ j (fun h => absurd h.1 (by (/-117-/first | (have o1 := gz_sh N_p_4__p_1; omega) | (simp only [gz_hd] at *; omega))))).trans (p27 _ j (fun h => absurd h.1 (by (/-118-/first | (have o1 := gz_sh N_p_4__p_2; omega) | (simp only [gz_hd] at *; omega)))))))) (by unfold fo_F1; rw [(show Int.toNat (24 * v2_8 + v3_13) = Int.toNat s1_18 from by (/-119-/first | (have o1 := gz_sh e2_18; have o2 := gz_sh hv4_18; omega) | (simp only [gz_hd] at *; omega))), show I54 (p + 2) (Int.toNat s1_18) = s2_18 from (p55 _ _ (fun h => absurd h.1 (by (/-120-/first | (have o1 := gz_sh N_p_2__p_4; omega) | (simp only [gz_hd] at *; omega))))).trans ((p50 _ _ (fun h => absurd h.1 (by (/-121-/first | (have o1 := gz_sh N_p_2__p_3; omega) | (simp only [gz_hd] at *; omega))))).trans ((p35 _ _ (fun h => absurd h.1 (by (/-122-/first | (have o1 := gz_sh N_p_2__p_1; omega) | (simp only [gz_hd] at *; omega))))).trans q27))]; exact (fo_out_cg k_4 (fun h9 => so_b_cg rfl (fun j hj => ((p55 _ _ (fun h => absurd h.1 (by (/-123-/first | omega | (simp only [gz_hd] at *; omega))))).trans ((p50 _ _ (fun h => absurd h.1 (by (/-124-/first | omega | (simp only [gz_hd] at *; omega))))).trans ((congrArg (I36 (p + 1)) (show Int.toNat (24 * (24 * v2_8 + v3_13)) + j = Int.toNat (v4_18 * 24) + j by (/-125-/first | (have o1 := gz_sh e2_18; have o2 := gz_sh hv4_18; omega) | (simp only [gz_hd] at *; omega)))).trans ((q35 j (by (/-126-/first | omega | (simp only [gz_hd] at *; omega)))).trans ((congrArg (I26 f32_) (show Int.toNat 0 + j = j by (/-127-/first | omega | (simp only [gz_hd] at *; omega)))).trans ((congrFun (congrArg I26 (show f32_ = so_fb I16 p 6 from hq_f32_.symm.trans (by unfold so_fb; rw [p27 p 6 (fun h => absurd h.1 (by (/-128-/first | (have o1 := gz_sh N_p__p_2; omega) | (simp only [gz_hd] at *; omega))))]))) j).trans (p27 _ j (fun h => absurd h.1 (by unfold so_fb; (/-129-/first | omega | (simp only [gz_hd] at *; omega))))))))))))))) (fun j => (show (-1) ≤ I16 (p + 2) j ∧ I16 (p + 2) j ≤ 24 from gc_in2 hI16 (gz_sh R_p_2) rfl rfl rfl).2) (by (/-130-/first | (have o1 := gz_sh e0_18; omega) | (simp only [gz_hd] at *; omega))) kc_2 (by rw [(show I54 (p + 2) (Int.toNat (24 * v2_8 + v3_13)) = s2_18 from by rw [(show Int.toNat (24 * v2_8 + v3_13) = Int.toNat v4_18 from by (/-131-/first | (have o1 := gz_sh e2_18; have o2 := gz_sh hv4_18; omega) | (simp only [gz_hd] at *; omega)))]; exact (p55 _ _ (fun h => absurd h.1 (by (/-132-/first | (have o1 := gz_sh N_p_2__p_4; omega) | (simp only [gz_hd] at *; omega))))).trans ((p50 _ _ (fun h => absurd h.1 (by (/-133-/first | (have o1 := gz_sh N_p_2__p_3; omega) | (simp only [gz_hd] at *; omega))))).trans ((p35 _ _ (fun h => absurd h.1 (by (/-134-/first | (have o1 := gz_sh N_p_2__p_1; omega) | (simp only [gz_hd] at *; omega))))).trans e27)))]; (/-135-/first | omega | (simp only [gz_hd] at *; omega))) (fo_hx_l (gz_sh q46).2.2 (gz_sh q46).1 rfl ((show I54 (p + 2) (Int.toNat (24 * v2_8 + v3_13)) = s2_18 from by rw [(show Int.toNat (24 * v2_8 + v3_13) = Int.toNat v4_18 from by (/-136-/first | (have o1 := gz_sh e2_18; have o2 := gz_sh hv4_18; omega) | (simp only [gz_hd] at *; omega)))]; exact (p55 _ _ (fun h => absurd h.1 (by (/-137-/first | (have o1 := gz_sh N_p_2__p_4; omega) | (simp only [gz_hd] at *; omega))))).trans ((p50 _ _ (fun h => absurd h.1 (by (/-138-/first | (have o1 := gz_sh N_p_2__p_3; omega) | (simp only [gz_hd] at *; omega))))).trans ((p35 _ _ (fun h => absurd h.1 (by (/-139-/first | (have o1 := gz_sh N_p_2__p_1; omega) | (simp only [gz_hd] at *; omega))))).trans e27))).trans (show I36 (p + 2) (Int.toNat v4_18) = s2_18 from (p35 _ _ (fun h => absurd h.1 (by (/-140-/first | (have o1 := gz_sh N_p_2__p_1; omega) | (simp only [gz_hd] at *; omega))))).trans e27).symm) (fun j hj => (p55 _ _ (fun h => absurd h.1 (by (/-141-/first | omega | (simp only [gz_hd] at *; omega))))).trans ((p50 _ _ (fun h => absurd h.1 (by (/-142-/first | omega | (simp only [gz_hd] at *; omega))))).trans ((congrArg (I36 (p + 1)) (show Int.toNat (24 * (24 * v2_8 + v3_13)) + j = Int.toNat (v4_18 * 24) + j by (/-143-/first | (have o1 := gz_sh e2_18; have o2 := gz_sh hv4_18; omega) | (simp only [gz_hd] at *; omega)))).trans ((q35 j (by have h9 := (show I36 (p + 2) (Int.toNat v4_18) = s2_18 from (p35 _ _ (fun h => absurd h.1 (by (/-144-/first | (have o1 := gz_sh N_p_2__p_1; omega) | (simp only [gz_hd] at *; omega))))).trans e27); (/-145-/first | (have o1 := gz_sh hs2_18; have o2 := gz_sh t40; have o3 := gz_sh t53; have o4 := gz_sh t58; omega) | (simp only [gz_hd] at *; omega)))).trans ((p35 f32_ _ (fun h => absurd h.1 (by (/-146-/first | omega | (simp only [gz_hd] at *; omega))))).symm.trans (congrArg (fun x => I36 x (Int.toNat 0 + j)) (show f43_ = f32_ from hq_f43_.symm.trans (by rw [p35 p 6 (fun h => absurd h.1 (by (/-147-/first | (have o1 := gz_sh N_p__p_1; omega) | (simp only [gz_hd] at *; omega))))]; exact hq_f32_)).symm))))))) (by (/-148-/first | (have o1 := gz_sh q46; omega) | (simp only [gz_hd] at *; omega))) (by rw [(show Int.toNat (24 * v2_8 + v3_13) = Int.toNat v4_18 from by (/-149-/first | (have o1 := gz_sh e2_18; have o2 := gz_sh hv4_18; omega) | (simp only [gz_hd] at *; omega)))]; exact (p55 _ _ (fun h => absurd h.1 (by (/-150-/first | omega | (simp only [gz_hd] at *; omega))))).trans (q50.trans ((p35 _ _ (fun h => absurd h.1 (by (/-151-/first | (have o1 := gz_sh N_p_4__p_1; omega) | (simp only [gz_hd] at *; omega))))).trans (p27 _ _ (fun h => absurd h.1 (by (/-152-/first | (have o1 := gz_sh N_p_4__p_2; omega) | (simp only [gz_hd] at *; omega)))))))) (q55.trans (by (/-153-/first | (have o1 := gz_sh e2_18; omega) | (simp only [gz_hd] at *; omega)))))
        refine gv_run 1 true hD (pcₚ := 67) (lvₚ := [(0, .inr (.inr (some p))), (1, .inr (.inr (some a1))), (2, .inl v2_8), (3, .inl v3_13)]) (stₚ := [.inl v3_13]) (hₚ := gc_h sh I11 J12 A) (C := (True ∧ True)) rfl ⟨trivial, trivial⟩ ?_
        refine gv_if_lt (t := 190) hD rfl rfl ⟨by (/-154-/first | (have o1 := gz_sh hv3_13; omega) | (simp only [gz_hd] at *; omega)), by (/-155-/first | (have o1 := gz_sh hv3_13; omega) | (simp only [gz_hd] at *; omega))⟩ (fun c59 => ?_) (fun c59 => ?_)
        · show gv_X _ _ (190, [(0, .inr (.inr (some p))), (1, .inr (.inr (some a1))), (2, .inl v2_8), (3, .inl v3_13)], [], sh, gc_h sh I11 J12 A)
          refine gv_run 2 true hD (pcₚ := 54) (lvₚ := [(2, .inl (v2_8 + (-1))), (0, .inr (.inr (some p))), (1, .inr (.inr (some a1))), (3, .inl v3_13)]) (stₚ := []) (hₚ := gc_h sh I11 J12 A) (C := ((True ∧ True) ∧ True)) rfl ⟨⟨trivial, trivial⟩, trivial⟩ ?_
          refine gv_pick [1, 2, 0] rfl ?_
          exact ih54 I11 J12 ((v2_8 + (-1))) (by (/-156-/first | (have o1 := gz_sh hv2_8_13; have o2 := gz_sh hv3_13; omega) | (simp only [gz_hd] at *; omega))) hI11 FI11 FJ12 KFB_I11 (by (/-157-/first | (and_intros; (have o1 := gz_sh hv2_8_13; omega); (have o1 := gz_sh hv2_8_13; omega); (have o1 := gz_sh e0_13; omega); (have o1 := gz_sh e1_13; omega); (have o1 := gz_sh e2_13; omega)) | (simp only [gz_hd] at *; omega))) k9_2 (by rw [show v2_8 + (-1) = v2_8 - 1 from by (/-158-/first | omega | (simp only [gz_hd] at *; omega))]; exact fo_D_out k_2 (by (/-159-/first | (have o1 := gz_sh hv3_13; omega) | (simp only [gz_hd] at *; omega))) (fun w9 => (show 0 ≤ fo_cs I a1 w9 ∧ fo_cs I a1 w9 ≤ 24 from gc_in hI (gz_sh R_a1_13) rfl rfl).2))
        · show gv_X _ _ (70, [(0, .inr (.inr (some p))), (1, .inr (.inr (some a1))), (2, .inl v2_8), (3, .inl v3_13)], [], sh, gc_h sh I11 J12 A)
          refine gv_run 7 true hD (pcₚ := 79) (lvₚ := [(4, .inl ((v2_8 * 24) + v3_13)), (0, .inr (.inr (some p))), (1, .inr (.inr (some a1))), (2, .inl v2_8), (3, .inl v3_13)]) (stₚ := [.inr (.inr (some p))]) (hₚ := gc_h sh I11 J12 A) (C := (((((((True ∧ True) ∧ True) ∧ True) ∧ True) ∧ True) ∧ True) ∧ True)) rfl ⟨⟨⟨⟨⟨⟨⟨trivial, trivial⟩, trivial⟩, trivial⟩, trivial⟩, trivial⟩, trivial⟩, trivial⟩ ?_
          refine gv_run 3 true hD (pcₚ := 82) (lvₚ := [(4, .inl ((v2_8 * 24) + v3_13)), (0, .inr (.inr (some p))), (1, .inr (.inr (some a1))), (2, .inl v2_8), (3, .inl v3_13)]) (stₚ := [.inl v3_13, .inl v2_8, .inr (.inr (some a1)), .inr (.inr (some p))]) (hₚ := gc_h sh I11 J12 A) (C := (((True ∧ True) ∧ True) ∧ True)) rfl ⟨⟨⟨trivial, trivial⟩, trivial⟩, trivial⟩ ?_
          obtain ⟨r60, h60, E60, P60⟩ := d_X2_join_p (ws0 := ws0) (tb := tb) hws htb sh ro I11 J12 A hI11 p a1 v2_8 v3_13 hp h_a1 G_a1  ⟨by (/-160-/first | (have o1 := gz_sh hv2_8_13; omega) | (simp only [gz_hd] at *; omega)), by (/-161-/first | (have o1 := gz_sh hv2_8_13; omega) | (simp only [gz_hd] at *; omega))⟩ ⟨by (/-162-/first | omega | (simp only [gz_hd] at *; omega)), by (/-163-/first | (have o1 := gz_sh hv3_13; omega) | (simp only [gz_hd] at *; omega))⟩ (by (/-164-/first | omega | (simp only [gz_hd] at *; omega))) (by rw [(fo_wc_eq (I := I) (I1 := I11) (t := a1) (w := v2_8) (c := v3_13) (fun q j h => (FI11 q j).resolve_left (by (/-165-/first | (have o1 := gz_sh B_p; have o2 := gz_sh B_p_1; have o3 := gz_sh B_p_2; have o4 := gz_sh B_p_3; have o5 := gz_sh B_p_4; have o6 := gz_sh B_p_5; have o7 := gz_sh B_p_6; have o8 := gz_sh B_p_7; omega) | (simp only [gz_hd] at *; omega))))).2.1]; intro i9 a9 b9; have r14 : I11 (a1 + 14) = I (a1 + 14) := funext fun k => (FI11 (a1 + 14) k).resolve_left (by (/-166-/first | omega | (simp only [gz_hd] at *; omega))); rw [r14] at a9 b9; rw [show I11 20 = I 20 from funext fun k => (FI11 20 k).resolve_left (by (/-167-/first | (have o1 := gz_sh B_p; have o2 := gz_sh B_p_1; have o3 := gz_sh B_p_2; have o4 := gz_sh B_p_3; have o5 := gz_sh B_p_4; have o6 := gz_sh B_p_5; have o7 := gz_sh B_p_6; have o8 := gz_sh B_p_7; omega) | (simp only [gz_hd] at *; omega)))]; exact y2 v2_8 v3_13 (by (/-168-/first | (have o1 := gz_sh hv2_8_13; omega) | (simp only [gz_hd] at *; omega))) (by (/-169-/first | (have o1 := gz_sh e0_13; omega) | (simp only [gz_hd] at *; omega))) (by (/-170-/first | omega | (simp only [gz_hd] at *; omega))) kc_2 i9 a9 b9) 
          obtain ⟨I61, J62, rfl, hI61, g60, k60, ⟨z60, rfl, q60⟩⟩ := P60
          replace q60 := gz_hi q60
          have FI61 := gc_frc (W := fun q j => (q = p ∧ j = 6) ∨ (q = p ∧ j = 7) ∨ (q = p ∧ j = 8) ∨ (q = p ∧ j = 9) ∨ q = (p + 1) ∨ q = (p + 2) ∨ q = (p + 3) ∨ q = (p + 4) ∨ q = (p + 6) ∨ q = (p + 7)) (V := fun q j => q = (p + 6) ∨ q = (p + 7)) FI11 (fun q j h => (h.elim (fun h => (Or.inr (Or.inr (Or.inr (Or.inr (Or.inr (Or.inr (Or.inr (Or.inr (Or.inl h)))))))))) (fun h => (Or.inr (Or.inr (Or.inr (Or.inr (Or.inr (Or.inr (Or.inr (Or.inr (Or.inr h)))))))))))) g60
          have t63 := gz_hi ((g60 a1 11).resolve_left (fun h => h.elim (fun h => absurd h (gz_sh N_a1__p_6)) (fun h => absurd h (gz_sh N_a1__p_7))))
          have t64 := gz_hi ((g60 p 8).resolve_left (fun h => h.elim (fun h => absurd h (gz_sh N_p__p_6)) (fun h => absurd h (gz_sh N_p__p_7))))
          obtain rfl : J12 = J62 := funext fun q => funext fun j => ((k60 q j).resolve_left id).symm
          have KFB_I61 := gc_FB_fr KFB_I11 (fun k => (g60 (p + 4) k).resolve_left (fun h => h.elim (fun h => absurd h (gz_sh N_p_4__p_6)) (fun h => absurd h (gz_sh N_p_4__p_7)))) (fun k => (g60 (p + 3) k).resolve_left (fun h => h.elim (fun h => absurd h (gz_sh N_p_3__p_6)) (fun h => absurd h (gz_sh N_p_3__p_7))))
          refine gv_callV hD rfl (As := [.inr (.inr (some a1)), .inl v2_8, .inl v3_13]) (st := []) rfl (gz_sh B_p) S_p rfl (gc_lV2 hws rfl) (Nat.le_of_ble_eq_true rfl) (gz_Ev_mono (d := 2) (by decide) E60) ?_
          show gv_X _ _ (85, [(4, .inl ((v2_8 * 24) + v3_13)), (0, .inr (.inr (some p))), (1, .inr (.inr (some a1))), (2, .inl v2_8), (3, .inl v3_13)], [.inl z60], sh, gc_h sh I61 J12 A)
          refine gv_run 2 true hD (pcₚ := 88) (lvₚ := [(5, .inl z60), (4, .inl ((v2_8 * 24) + v3_13)), (0, .inr (.inr (some p))), (1, .inr (.inr (some a1))), (2, .inl v2_8), (3, .inl v3_13)]) (stₚ := [.inr (.inr (some p))]) (hₚ := gc_h sh I61 J12 A) (C := ((True ∧ True) ∧ True)) rfl ⟨⟨trivial, trivial⟩, trivial⟩ ?_
          refine gv_get hD rfl rfl S_p ⟨by decide, (gz_sh B_p)⟩ (gc_hA S_p rfl A_p_2) ?_
          show gv_X _ _ (91, [(5, .inl z60), (4, .inl ((v2_8 * 24) + v3_13)), (0, .inr (.inr (some p))), (1, .inr (.inr (some a1))), (2, .inl v2_8), (3, .inl v3_13)], [.inr (.inr (some (p + 2)))], sh, gc_h sh I61 J12 A)
          refine gv_run 2 true hD (pcₚ := 95) (lvₚ := [(5, .inl z60), (4, .inl ((v2_8 * 24) + v3_13)), (0, .inr (.inr (some p))), (1, .inr (.inr (some a1))), (2, .inl v2_8), (3, .inl v3_13)]) (stₚ := [.inl z60, .inl ((v2_8 * 24) + v3_13), .inr (.inr (some (p + 2)))]) (hₚ := gc_h sh I61 J12 A) (C := ((True ∧ True) ∧ True)) rfl ⟨⟨trivial, trivial⟩, trivial⟩ ?_
          refine gv_if_le (t := 108) hD rfl rfl ⟨by (/-171-/first | (have o1 := gz_sh q60; omega) | (simp only [gz_hd] at *; omega)), by (/-172-/first | (have o1 := gz_sh q60; omega) | (simp only [gz_hd] at *; omega))⟩ (fun c66 => ?_) (fun c66 => ?_)
          · show gv_X _ _ (108, [(5, .inl z60), (4, .inl ((v2_8 * 24) + v3_13)), (0, .inr (.inr (some p))), (1, .inr (.inr (some a1))), (2, .inl v2_8), (3, .inl v3_13)], [.inl ((v2_8 * 24) + v3_13), .inr (.inr (some (p + 2)))], sh, gc_h sh I61 J12 A)
            refine gv_run 1 true hD (pcₚ := 109) (lvₚ := [(5, .inl z60), (4, .inl ((v2_8 * 24) + v3_13)), (0, .inr (.inr (some p))), (1, .inr (.inr (some a1))), (2, .inl v2_8), (3, .inl v3_13)]) (stₚ := [.inl (-1), .inl ((v2_8 * 24) + v3_13), .inr (.inr (some (p + 2)))]) (hₚ := gc_h sh I61 J12 A) (C := (True ∧ True)) rfl ⟨trivial, trivial⟩ ?_
            refine gv_pick [2, 3, 4, 5, 1] rfl ?_
            exact L109 I61 J12 (((v2_8 * 24) + v3_13)) (((v2_8 * 24) + v3_13)) (-1) hI61 FI61 FJ12 KFB_I61 (by (/-173-/first | (and_intros; (have o1 := gz_sh hv2_8_13; omega); (have o1 := gz_sh hv2_8_13; omega); (omega); (have o1 := gz_sh hv3_13; omega); (have o1 := gz_sh hv2_8_13; omega); (have o1 := gz_sh hv2_8_13; have o2 := gz_sh hv3_13; omega); (have o1 := gz_sh hv2_8_13; omega); (have o1 := gz_sh hv2_8_13; have o2 := gz_sh hv3_13; omega); (omega); (omega); (have o1 := gz_sh e0_13; omega); (have o1 := gz_sh e1_13; have o2 := gz_sh t64; omega); (omega); (have o1 := gz_sh e2_13; have o2 := gz_sh t63; omega)) | (simp only [gz_hd] at *; omega))) (((g60 p 9).resolve_left (by (/-174-/first | omega | (simp only [gz_hd] at *; omega)))).trans k9_2) (fo_D_fr k_2 (by rw [(g60 p 6).resolve_left (by (/-175-/first | omega | (simp only [gz_hd] at *; omega))), (g60 p 7).resolve_left (by (/-176-/first | omega | (simp only [gz_hd] at *; omega)))]; exact k_2.1) (fun j => (g60 (p + 2) j).resolve_left (by (/-177-/first | omega | (simp only [gz_hd] at *; omega)))) (fun j => (g60 (p + 1) j).resolve_left (by (/-178-/first | omega | (simp only [gz_hd] at *; omega)))) (fun j => (g60 (p + 3) j).resolve_left (by (/-179-/first | omega | (simp only [gz_hd] at *; omega)))) (fun j => (g60 (p + 4) j).resolve_left (by (/-180-/first | omega | (simp only [gz_hd] at *; omega))))) (by rw [← (fo_wc_eq (I := I) (I1 := I11) (t := a1) (w := v2_8) (c := v3_13) (fun q j h => (FI11 q j).resolve_left (by (/-181-/first | (have o1 := gz_sh B_p; have o2 := gz_sh B_p_1; have o3 := gz_sh B_p_2; have o4 := gz_sh B_p_3; have o5 := gz_sh B_p_4; have o6 := gz_sh B_p_5; have o7 := gz_sh B_p_6; have o8 := gz_sh B_p_7; omega) | (simp only [gz_hd] at *; omega))))).1]; exact fo_out_j (gz_sh q60).2.2 (by (/-182-/first | omega | (simp only [gz_hd] at *; omega)))) rfl
          · show gv_X _ _ (98, [(5, .inl z60), (4, .inl ((v2_8 * 24) + v3_13)), (0, .inr (.inr (some p))), (1, .inr (.inr (some a1))), (2, .inl v2_8), (3, .inl v3_13)], [.inl ((v2_8 * 24) + v3_13), .inr (.inr (some (p + 2)))], sh, gc_h sh I61 J12 A)
            refine gv_run 3 true hD (pcₚ := 102) (lvₚ := [(5, .inl z60), (4, .inl ((v2_8 * 24) + v3_13)), (0, .inr (.inr (some p))), (1, .inr (.inr (some a1))), (2, .inl v2_8), (3, .inl v3_13)]) (stₚ := [.inl z60, .inr (.inr (some a1)), .inr (.inr (some p)), .inl ((v2_8 * 24) + v3_13), .inr (.inr (some (p + 2)))]) (hₚ := gc_h sh I61 J12 A) (C := (((True ∧ True) ∧ True) ∧ True)) rfl ⟨⟨⟨trivial, trivial⟩, trivial⟩, trivial⟩ ?_
            obtain ⟨r67, h67, E67, P67⟩ := d_X2_soundAll_p (ws0 := ws0) (tb := tb) hws htb sh ro I61 J12 A hI61 p a1 z60 hp h_a1 G_a1  ⟨by (/-183-/first | omega | (simp only [gz_hd] at *; omega)), by (/-184-/first | (have o1 := gz_sh q60; omega) | (simp only [gz_hd] at *; omega))⟩ (gc_sc_fr x0 (fun k => (FI61 (a1 + 10) k).resolve_left (by (/-185-/first | omega | (simp only [gz_hd] at *; omega))))) (by (/-186-/first | omega | (simp only [gz_hd] at *; omega))) (by rw [(g60 p 6).resolve_left (by (/-187-/first | omega | (simp only [gz_hd] at *; omega))), (g60 p 7).resolve_left (by (/-188-/first | omega | (simp only [gz_hd] at *; omega)))]; exact k_2.1) (fun r h0 h1 => by rw [show so_rc I61 a1 r = so_rc I a1 r from so_rc_eq (fun k => (FI61 _ k).resolve_left (by (/-189-/first | omega | (simp only [gz_hd] at *; omega)))) (fun k => (FI61 _ k).resolve_left (by (/-190-/first | omega | (simp only [gz_hd] at *; omega)))) (fun k => (FI61 _ k).resolve_left (by (/-191-/first | (have o1 := gz_sh B_p; have o2 := gz_sh B_p_1; have o3 := gz_sh B_p_2; have o4 := gz_sh B_p_3; have o5 := gz_sh B_p_4; have o6 := gz_sh B_p_5; have o7 := gz_sh B_p_6; have o8 := gz_sh B_p_7; omega) | (simp only [gz_hd] at *; omega))))]; exact y1 r h0 (by have h9 : I61 a1 6 = I a1 6 := (FI61 a1 6).resolve_left (by (/-192-/first | omega | (simp only [gz_hd] at *; omega))); (/-193-/first | omega | (simp only [gz_hd] at *; omega)))) 
            obtain ⟨I68, J69, rfl, hI68, g67, k67, ⟨z67, rfl, q67⟩⟩ := P67
            replace q67 := gz_hi q67
            have FI68 := gc_frc (W := fun q j => (q = p ∧ j = 6) ∨ (q = p ∧ j = 7) ∨ (q = p ∧ j = 8) ∨ (q = p ∧ j = 9) ∨ q = (p + 1) ∨ q = (p + 2) ∨ q = (p + 3) ∨ q = (p + 4) ∨ q = (p + 6) ∨ q = (p + 7)) (V := fun q j => (q = p ∧ j = 6) ∨ (q = p ∧ j = 7) ∨ q = (p + 6) ∨ q = (p + 7)) FI61 (fun q j h => (h.elim (fun h => (Or.inl h)) (fun h => (h.elim (fun h => (Or.inr (Or.inl h))) (fun h => (h.elim (fun h => (Or.inr (Or.inr (Or.inr (Or.inr (Or.inr (Or.inr (Or.inr (Or.inr (Or.inl h)))))))))) (fun h => (Or.inr (Or.inr (Or.inr (Or.inr (Or.inr (Or.inr (Or.inr (Or.inr (Or.inr h)))))))))))))))) g67
            have t70 := gz_hi ((g67 a1 11).resolve_left (fun h => h.elim (fun h => absurd h.2 (by first | exact gz_ne rfl | decide)) (fun h => h.elim (fun h => absurd h.2 (by first | exact gz_ne rfl | decide)) (fun h => h.elim (fun h => absurd h (gz_sh N_a1__p_6)) (fun h => absurd h (gz_sh N_a1__p_7))))))
            have t71 := gz_hi ((g67 p 8).resolve_left (fun h => h.elim (fun h => absurd h.2 (by first | exact gz_ne rfl | decide)) (fun h => h.elim (fun h => absurd h.2 (by first | exact gz_ne rfl | decide)) (fun h => h.elim (fun h => absurd h (gz_sh N_p__p_6)) (fun h => absurd h (gz_sh N_p__p_7))))))
            obtain rfl : J12 = J69 := funext fun q => funext fun j => ((k67 q j).resolve_left id).symm
            have KFB_I68 := gc_FB_fr KFB_I61 (fun k => (g67 (p + 4) k).resolve_left (fun h => h.elim (fun h => absurd h.1 (gz_sh N_p_4__p)) (fun h => h.elim (fun h => absurd h.1 (gz_sh N_p_4__p)) (fun h => h.elim (fun h => absurd h (gz_sh N_p_4__p_6)) (fun h => absurd h (gz_sh N_p_4__p_7)))))) (fun k => (g67 (p + 3) k).resolve_left (fun h => h.elim (fun h => absurd h.1 (gz_sh N_p_3__p)) (fun h => h.elim (fun h => absurd h.1 (gz_sh N_p_3__p)) (fun h => h.elim (fun h => absurd h (gz_sh N_p_3__p_6)) (fun h => absurd h (gz_sh N_p_3__p_7))))))
            refine gv_callV hD rfl (As := [.inr (.inr (some a1)), .inl z60]) (st := [.inl ((v2_8 * 24) + v3_13), .inr (.inr (some (p + 2)))]) rfl (gz_sh B_p) S_p rfl (gc_lV2 hws rfl) (Nat.le_of_ble_eq_true rfl) (gz_Ev_mono (d := 4) (by decide) E67) ?_
            show gv_X _ _ (105, [(5, .inl z60), (4, .inl ((v2_8 * 24) + v3_13)), (0, .inr (.inr (some p))), (1, .inr (.inr (some a1))), (2, .inl v2_8), (3, .inl v3_13)], [.inl z67, .inl ((v2_8 * 24) + v3_13), .inr (.inr (some (p + 2)))], sh, gc_h sh I68 J12 A)
            refine gv_run 1 true hD (pcₚ := 109) (lvₚ := [(5, .inl z60), (4, .inl ((v2_8 * 24) + v3_13)), (0, .inr (.inr (some p))), (1, .inr (.inr (some a1))), (2, .inl v2_8), (3, .inl v3_13)]) (stₚ := [.inl z67, .inl ((v2_8 * 24) + v3_13), .inr (.inr (some (p + 2)))]) (hₚ := gc_h sh I68 J12 A) (C := (True ∧ True)) rfl ⟨trivial, trivial⟩ ?_
            refine gv_pick [2, 3, 4, 5, 1] rfl ?_
            exact L109 I68 J12 (((v2_8 * 24) + v3_13)) (((v2_8 * 24) + v3_13)) z67 hI68 FI68 FJ12 KFB_I68 (by (/-194-/first | (and_intros; (have o1 := gz_sh hv2_8_13; omega); (have o1 := gz_sh hv2_8_13; omega); (omega); (have o1 := gz_sh hv3_13; omega); (have o1 := gz_sh hv2_8_13; omega); (have o1 := gz_sh hv2_8_13; have o2 := gz_sh hv3_13; omega); (have o1 := gz_sh hv2_8_13; omega); (have o1 := gz_sh hv2_8_13; have o2 := gz_sh hv3_13; omega); (have o1 := gz_sh q67; omega); (have o1 := gz_sh q67; omega); (have o1 := gz_sh e0_13; omega); (have o1 := gz_sh e1_13; have o2 := gz_sh t64; have o3 := gz_sh t71; omega); (omega); (have o1 := gz_sh e2_13; have o2 := gz_sh t63; have o3 := gz_sh t70; omega)) | (simp only [gz_hd] at *; omega))) (((g67 p 9).resolve_left (by (/-195-/first | omega | (simp only [gz_hd] at *; omega)))).trans (((g60 p 9).resolve_left (by (/-196-/first | omega | (simp only [gz_hd] at *; omega)))).trans k9_2)) (fo_D_fr (fo_D_fr k_2 (by rw [(g60 p 6).resolve_left (by (/-197-/first | omega | (simp only [gz_hd] at *; omega))), (g60 p 7).resolve_left (by (/-198-/first | omega | (simp only [gz_hd] at *; omega)))]; exact k_2.1) (fun j => (g60 (p + 2) j).resolve_left (by (/-199-/first | omega | (simp only [gz_hd] at *; omega)))) (fun j => (g60 (p + 1) j).resolve_left (by (/-200-/first | omega | (simp only [gz_hd] at *; omega)))) (fun j => (g60 (p + 3) j).resolve_left (by (/-201-/first | omega | (simp only [gz_hd] at *; omega)))) (fun j => (g60 (p + 4) j).resolve_left (by (/-202-/first | omega | (simp only [gz_hd] at *; omega))))) (gz_sh q67).2.2.2.1 (fun j => (g67 (p + 2) j).resolve_left (by (/-203-/first | omega | (simp only [gz_hd] at *; omega)))) (fun j => (g67 (p + 1) j).resolve_left (by (/-204-/first | omega | (simp only [gz_hd] at *; omega)))) (fun j => (g67 (p + 3) j).resolve_left (by (/-205-/first | omega | (simp only [gz_hd] at *; omega)))) (fun j => (g67 (p + 4) j).resolve_left (by (/-206-/first | omega | (simp only [gz_hd] at *; omega))))) (by rw [← (fo_wc_eq (I := I) (I1 := I11) (t := a1) (w := v2_8) (c := v3_13) (fun q j h => (FI11 q j).resolve_left (by (/-207-/first | (have o1 := gz_sh B_p; have o2 := gz_sh B_p_1; have o3 := gz_sh B_p_2; have o4 := gz_sh B_p_3; have o5 := gz_sh B_p_4; have o6 := gz_sh B_p_5; have o7 := gz_sh B_p_6; have o8 := gz_sh B_p_7; omega) | (simp only [gz_hd] at *; omega))))).1]; exact fo_out_p (gz_sh q60).2.2 (by (/-208-/first | omega | (simp only [gz_hd] at *; omega))) (by have h9 := (gz_sh q67).2.2.2.2; rw [show (fun k : Nat => so_rc I61 a1 (k : Int)) = (fun k : Nat => so_rc I a1 (k : Int)) from funext fun k => so_rc_eq (fun k => (FI61 _ k).resolve_left (by (/-209-/first | omega | (simp only [gz_hd] at *; omega)))) (fun k => (FI61 _ k).resolve_left (by (/-210-/first | omega | (simp only [gz_hd] at *; omega)))) (fun k => (FI61 _ k).resolve_left (by (/-211-/first | (have o1 := gz_sh B_p; have o2 := gz_sh B_p_1; have o3 := gz_sh B_p_2; have o4 := gz_sh B_p_3; have o5 := gz_sh B_p_4; have o6 := gz_sh B_p_5; have o7 := gz_sh B_p_6; have o8 := gz_sh B_p_7; omega) | (simp only [gz_hd] at *; omega)))), show I61 a1 6 = I a1 6 from (FI61 a1 6).resolve_left (by (/-212-/first | omega | (simp only [gz_hd] at *; omega))), show so_fb I61 p 6 = so_fb I11 p 6 from (by unfold so_fb; rw [(g60 p 6).resolve_left (by (/-213-/first | omega | (simp only [gz_hd] at *; omega)))])] at h9; exact h9)) rfl
    refine gv_run 1 true hD (pcₚ := 55) (lvₚ := [(0, .inr (.inr (some p))), (1, .inr (.inr (some a1))), (2, .inl v2_8)]) (stₚ := [.inl v2_8]) (hₚ := gc_h sh I6 J7 A) (C := (True ∧ True)) rfl ⟨trivial, trivial⟩ ?_
    refine gv_if_lt (t := 196) hD rfl rfl ⟨by (/-214-/first | (have o1 := gz_sh hv2_8; omega) | (simp only [gz_hd] at *; omega)), by (/-215-/first | (have o1 := gz_sh hv2_8; omega) | (simp only [gz_hd] at *; omega))⟩ (fun c73 => ?_) (fun c73 => ?_)
    · show gv_X _ _ (196, [(0, .inr (.inr (some p))), (1, .inr (.inr (some a1))), (2, .inl v2_8)], [], sh, gc_h sh I6 J7 A)
      exact gv_vret hD rfl ⟨I6, J7, rfl, hI6, FI6, FJ7, ⟨rfl, KFB_I6, by (/-216-/first | (have o1 := gz_sh e1_8; omega) | (simp only [gz_hd] at *; omega)), k9_1, k_1.1, fo_D_e k_1 (by (/-217-/first | (have o1 := gz_sh hv2_8; omega) | (simp only [gz_hd] at *; omega)))⟩⟩
    · show gv_X _ _ (58, [(0, .inr (.inr (some p))), (1, .inr (.inr (some a1))), (2, .inl v2_8)], [], sh, gc_h sh I6 J7 A)
      refine gv_run 2 true hD (pcₚ := 60) (lvₚ := [(0, .inr (.inr (some p))), (1, .inr (.inr (some a1))), (2, .inl v2_8)]) (stₚ := [.inl v2_8, .inr (.inr (some a1))]) (hₚ := gc_h sh I6 J7 A) (C := ((True ∧ True) ∧ True)) rfl ⟨⟨trivial, trivial⟩, trivial⟩ ?_
      obtain ⟨r74, h74, E74, P74⟩ := d_X11_cellsOf_p (ws0 := ws0) (tb := tb) hws htb sh ro I6 J7 A hI6 a1 v2_8 h_a1   ⟨by (/-218-/first | omega | (simp only [gz_hd] at *; omega)), by (/-219-/first | (have o1 := gz_sh hv2_8; omega) | (simp only [gz_hd] at *; omega))⟩  
      obtain ⟨rfl, ⟨z74, rfl, q74⟩⟩ := P74
      replace q74 := gz_hi q74
      refine gv_callV hD rfl (As := [.inl v2_8]) (st := []) rfl (gz_sh B_a1) S_a1 rfl (gc_lV2 hws rfl) (Nat.le_of_ble_eq_true rfl) (gz_Ev_mono (d := 2) (by decide) E74) ?_
      show gv_X _ _ (63, [(0, .inr (.inr (some p))), (1, .inr (.inr (some a1))), (2, .inl v2_8)], [.inl z74], sh, gc_h sh I6 J7 A)
      refine gv_run 3 true hD (pcₚ := 66) (lvₚ := [(3, .inl (z74 - 1)), (0, .inr (.inr (some p))), (1, .inr (.inr (some a1))), (2, .inl v2_8)]) (stₚ := []) (hₚ := gc_h sh I6 J7 A) (C := (((True ∧ True) ∧ True) ∧ True)) rfl ⟨⟨⟨trivial, trivial⟩, trivial⟩, trivial⟩ ?_
      refine gv_pick [1, 2, 3, 0] rfl ?_
      exact L66 _ I6 J7 (z74 - 1) (Nat.lt_succ_self _) hI6 FI6 FJ7 KFB_I6 (by (/-220-/first | (and_intros; (omega); (have o1 := gz_sh hv2_8; omega); (have o1 := gz_sh q74; omega); (have o1 := gz_sh q74; omega); (have o1 := gz_sh e0_8; omega); (have o1 := gz_sh e1_8; omega); (have o1 := gz_sh e2_8; omega)) | (simp only [gz_hd] at *; omega))) k9_1 (by have h9 := (show z74 = fo_cs I a1 v2_8 from (gz_sh q74).2.2.trans (by unfold fo_cs; rw [show gs_fw I6 a1 v2_8 = gs_fw I a1 v2_8 from funext fun k => (FI6 (a1 + 15) _).resolve_left (by (/-221-/first | omega | (simp only [gz_hd] at *; omega)))]; exact (FI6 (a1 + 13) _).resolve_left (by (/-222-/first | omega | (simp only [gz_hd] at *; omega))))); (/-223-/first | omega | (simp only [gz_hd] at *; omega))) (fo_D_in k_1 (by have h9 := (show z74 = fo_cs I a1 v2_8 from (gz_sh q74).2.2.trans (by unfold fo_cs; rw [show gs_fw I6 a1 v2_8 = gs_fw I a1 v2_8 from funext fun k => (FI6 (a1 + 15) _).resolve_left (by (/-224-/first | omega | (simp only [gz_hd] at *; omega)))]; exact (FI6 (a1 + 13) _).resolve_left (by (/-225-/first | omega | (simp only [gz_hd] at *; omega))))); (/-226-/first | omega | (simp only [gz_hd] at *; omega))) (by (/-227-/first | (have o1 := gz_sh q74; omega) | (simp only [gz_hd] at *; omega))) (fun w9 => (show 0 ≤ fo_cs I a1 w9 ∧ fo_cs I a1 w9 ≤ 24 from gc_in hI (gz_sh R_a1_13) rfl rfl).2))
set_option maxHeartbeats 8000000 in
set_option maxRecDepth 100000 in
theorem d_X2_build_p {ws0 : List Cond} {tb : String → gz_T} (hws : gc_Ws ws0) (htb : gc_tbs tb) (sh : gz_Sh) (ro : Nat → Nat) (I : gr_I) (J : gr_J) (A : gc_A) (hI : gc_Inv ro I) (p : Nat) (a1 : Nat) (hp : gc_isForms sh ro A p) (h_a1 : gc_isTongue sh ro A a1) (G_a1 : 144 ≤ a1)  (x0 : gc_sc (a1 + 10) I) (x1 : p = a1 + 17) (x2 : gc_FB p (24 * I p 8) I) (x3 : I p 8 ≤ I a1 11) (y0 : ¬ I p 6 = I p 7) (y1 : so_lhs I a1) (y2 : fo_by I a1) (y3 : I p 8 = I a1 11 → I p 9 = I a1 6 → fo_FC I I a1 p) : ∃ r hₚ, gz_Ev ws0 tb 5 (yX2_build, cX2_build, 7, none) [.inr (.inr (some p)), .inr (.inr (some a1))] sh (gc_h sh I J A) r sh hₚ 0 0 ∧ (∃ (Iₚ : gr_I) (Jₚ : gr_J), hₚ = gc_h sh Iₚ Jₚ A ∧ gc_Inv ro Iₚ ∧ (∀ q j : Nat, ((q = p ∧ j = 6) ∨ (q = p ∧ j = 7) ∨ (q = p ∧ j = 8) ∨ (q = p ∧ j = 9) ∨ q = (p + 1) ∨ q = (p + 2) ∨ q = (p + 3) ∨ q = (p + 4) ∨ q = (p + 6) ∨ q = (p + 7)) ∨ Iₚ q j = I q j) ∧ (∀ q j : Nat, (False) ∨ Jₚ q j = J q j) ∧ r = none ∧ (gc_FB p (24 * I a1 11) Iₚ) ∧ (Iₚ p 8 = I a1 11) ∧ (Iₚ p 9 = I a1 6) ∧ ¬ Iₚ p 6 = Iₚ p 7 ∧ fo_FC I Iₚ a1 p) := by
  have FI : ∀ q j : Nat, ((q = p ∧ j = 6) ∨ (q = p ∧ j = 7) ∨ (q = p ∧ j = 8) ∨ (q = p ∧ j = 9) ∨ q = (p + 1) ∨ q = (p + 2) ∨ q = (p + 3) ∨ q = (p + 4) ∨ q = (p + 6) ∨ q = (p + 7)) ∨ I q j = I q j := fun _ _ => Or.inr rfl
  have FJ : ∀ q j : Nat, (False) ∨ J q j = J q j := fun _ _ => Or.inr rfl
  obtain ⟨S_p, R_p, B_p, A_p_0, S_20, R_20, B_20, A_p_1, S_p_1, R_p_1, B_p_1, A_p_2, S_p_2, R_p_2, B_p_2, A_p_3, S_p_3, R_p_3, B_p_3, A_p_4, S_p_4, R_p_4, B_p_4, A_p_5, S_p_5, R_p_5, B_p_5, S_p_6, R_p_6, B_p_6, S_p_7, R_p_7, B_p_7⟩ := id hp
  replace R_p := gz_hi R_p
  replace B_p := gz_hi B_p
  replace R_20 := gz_hi R_20
  replace B_20 := gz_hi B_20
  replace R_p_1 := gz_hi R_p_1
  replace B_p_1 := gz_hi B_p_1
  replace R_p_2 := gz_hi R_p_2
  replace B_p_2 := gz_hi B_p_2
  replace R_p_3 := gz_hi R_p_3
  replace B_p_3 := gz_hi B_p_3
  replace R_p_4 := gz_hi R_p_4
  replace B_p_4 := gz_hi B_p_4
  replace R_p_5 := gz_hi R_p_5
  replace B_p_5 := gz_hi B_p_5
  replace R_p_6 := gz_hi R_p_6
  replace B_p_6 := gz_hi B_p_6
  replace R_p_7 := gz_hi R_p_7
  replace B_p_7 := gz_hi B_p_7
  obtain ⟨S_a1, R_a1, B_a1, A_a1_0, h_a1_1, A_a1_1, h_a1_3, A_a1_2, S_a1_5, R_a1_5, B_a1_5, A_a1_3, S_a1_6, R_a1_6, B_a1_6, A_a1_4, h_a1_7, A_a1_5, S_a1_9, R_a1_9, B_a1_9, A_a1_7, S_a1_10, R_a1_10, B_a1_10, A_a1_8, h_a1_11, A_a1_9, S_a1_13, R_a1_13, B_a1_13, A_a1_10, S_a1_14, R_a1_14, B_a1_14, A_a1_12, S_a1_15, R_a1_15, B_a1_15, A_a1_14, S_a1_16, R_a1_16, B_a1_16, A_a1_15, h_a1_17⟩ := id h_a1
  replace R_a1 := gz_hi R_a1
  replace B_a1 := gz_hi B_a1
  replace R_a1_5 := gz_hi R_a1_5
  replace B_a1_5 := gz_hi B_a1_5
  replace R_a1_6 := gz_hi R_a1_6
  replace B_a1_6 := gz_hi B_a1_6
  replace R_a1_9 := gz_hi R_a1_9
  replace B_a1_9 := gz_hi B_a1_9
  replace R_a1_10 := gz_hi R_a1_10
  replace B_a1_10 := gz_hi B_a1_10
  replace R_a1_13 := gz_hi R_a1_13
  replace B_a1_13 := gz_hi B_a1_13
  replace R_a1_14 := gz_hi R_a1_14
  replace B_a1_14 := gz_hi B_a1_14
  replace R_a1_15 := gz_hi R_a1_15
  replace B_a1_15 := gz_hi B_a1_15
  replace R_a1_16 := gz_hi R_a1_16
  replace B_a1_16 := gz_hi B_a1_16
  obtain ⟨S_a1_1, R_a1_1, B_a1_1, A_a1_1_0, S_a1_1_1, R_a1_1_1, B_a1_1_1, Q0_a1_1, Q1_a1_1, Q2_a1_1⟩ := id h_a1_1
  replace R_a1_1 := gz_hi R_a1_1
  replace B_a1_1 := gz_hi B_a1_1
  replace R_a1_1_1 := gz_hi R_a1_1_1
  replace B_a1_1_1 := gz_hi B_a1_1_1
  obtain ⟨S_a1_3, R_a1_3, B_a1_3, A_a1_3_0, S_a1_3_1, R_a1_3_1, B_a1_3_1, Q0_a1_3, Q1_a1_3, Q2_a1_3⟩ := id h_a1_3
  replace R_a1_3 := gz_hi R_a1_3
  replace B_a1_3 := gz_hi B_a1_3
  replace R_a1_3_1 := gz_hi R_a1_3_1
  replace B_a1_3_1 := gz_hi B_a1_3_1
  obtain ⟨S_a1_7, R_a1_7, B_a1_7, A_a1_7_0, S_a1_7_1, R_a1_7_1, B_a1_7_1, Q0_a1_7, Q1_a1_7, Q2_a1_7⟩ := id h_a1_7
  replace R_a1_7 := gz_hi R_a1_7
  replace B_a1_7 := gz_hi B_a1_7
  replace R_a1_7_1 := gz_hi R_a1_7_1
  replace B_a1_7_1 := gz_hi B_a1_7_1
  obtain ⟨S_a1_11, R_a1_11, B_a1_11, A_a1_11_0, S_a1_11_1, R_a1_11_1, B_a1_11_1, Q0_a1_11, Q1_a1_11, Q2_a1_11⟩ := id h_a1_11
  replace R_a1_11 := gz_hi R_a1_11
  replace B_a1_11 := gz_hi B_a1_11
  replace R_a1_11_1 := gz_hi R_a1_11_1
  replace B_a1_11_1 := gz_hi B_a1_11_1
  obtain ⟨S_a1_17, R_a1_17, B_a1_17, A_a1_17_0, S_20, R_20, B_20, A_a1_17_1, S_a1_17_1, R_a1_17_1, B_a1_17_1, A_a1_17_2, S_a1_17_2, R_a1_17_2, B_a1_17_2, A_a1_17_3, S_a1_17_3, R_a1_17_3, B_a1_17_3, A_a1_17_4, S_a1_17_4, R_a1_17_4, B_a1_17_4, A_a1_17_5, S_a1_17_5, R_a1_17_5, B_a1_17_5, S_a1_17_6, R_a1_17_6, B_a1_17_6, S_a1_17_7, R_a1_17_7, B_a1_17_7⟩ := id h_a1_17
  replace R_a1_17 := gz_hi R_a1_17
  replace B_a1_17 := gz_hi B_a1_17
  replace R_20 := gz_hi R_20
  replace B_20 := gz_hi B_20
  replace R_a1_17_1 := gz_hi R_a1_17_1
  replace B_a1_17_1 := gz_hi B_a1_17_1
  replace R_a1_17_2 := gz_hi R_a1_17_2
  replace B_a1_17_2 := gz_hi B_a1_17_2
  replace R_a1_17_3 := gz_hi R_a1_17_3
  replace B_a1_17_3 := gz_hi B_a1_17_3
  replace R_a1_17_4 := gz_hi R_a1_17_4
  replace B_a1_17_4 := gz_hi B_a1_17_4
  replace R_a1_17_5 := gz_hi R_a1_17_5
  replace B_a1_17_5 := gz_hi B_a1_17_5
  replace R_a1_17_6 := gz_hi R_a1_17_6
  replace B_a1_17_6 := gz_hi B_a1_17_6
  replace R_a1_17_7 := gz_hi R_a1_17_7
  replace B_a1_17_7 := gz_hi B_a1_17_7
  have hD : gv_D (gc_E2 ws0 tb 4 (yX2_build, cX2_build, 7, none) kX2_build) := gq_of oX2_build
  refine gc_ev2 (d := 4) (l := kX2_build) (Po := fun r hₚ => (∃ (Iₚ : gr_I) (Jₚ : gr_J), hₚ = gc_h sh Iₚ Jₚ A ∧ gc_Inv ro Iₚ ∧ (∀ q j : Nat, ((q = p ∧ j = 6) ∨ (q = p ∧ j = 7) ∨ (q = p ∧ j = 8) ∨ (q = p ∧ j = 9) ∨ q = (p + 1) ∨ q = (p + 2) ∨ q = (p + 3) ∨ q = (p + 4) ∨ q = (p + 6) ∨ q = (p + 7)) ∨ Iₚ q j = I q j) ∧ (∀ q j : Nat, (False) ∨ Jₚ q j = J q j) ∧ r = none ∧ (gc_FB p (24 * I a1 11) Iₚ) ∧ (Iₚ p 8 = I a1 11) ∧ (Iₚ p 9 = I a1 6) ∧ ¬ Iₚ p 6 = Iₚ p 7 ∧ fo_FC I Iₚ a1 p)) htb rfl (Nat.le_of_ble_eq_true rfl) ?_
  have N_a1__p_2 := gz_hi (show ¬ (a1 = (p + 2)) from by (/-0-/first | omega | (simp only [gz_hd] at *; omega)))
  have N_p__p_2 := gz_hi (show ¬ (p = (p + 2)) from by (/-1-/first | omega | (simp only [gz_hd] at *; omega)))
  have N_p_4__p_2 := gz_hi (show ¬ ((p + 4) = (p + 2)) from by (/-2-/first | omega | (simp only [gz_hd] at *; omega)))
  have N_p_3__p_2 := gz_hi (show ¬ ((p + 3) = (p + 2)) from by (/-3-/first | omega | (simp only [gz_hd] at *; omega)))
  have N_p_4__p_1 := gz_hi (show ¬ ((p + 4) = (p + 1)) from by (/-4-/first | omega | (simp only [gz_hd] at *; omega)))
  have N_p_3__p_1 := gz_hi (show ¬ ((p + 3) = (p + 1)) from by (/-5-/first | omega | (simp only [gz_hd] at *; omega)))
  have N_a1__p_1 := gz_hi (show ¬ (a1 = (p + 1)) from by (/-6-/first | omega | (simp only [gz_hd] at *; omega)))
  have N_p__p_1 := gz_hi (show ¬ (p = (p + 1)) from by (/-7-/first | omega | (simp only [gz_hd] at *; omega)))
  have N_p_2__p_1 := gz_hi (show ¬ ((p + 2) = (p + 1)) from by (/-8-/first | omega | (simp only [gz_hd] at *; omega)))
  have N_a1__p_3 := gz_hi (show ¬ (a1 = (p + 3)) from by (/-9-/first | omega | (simp only [gz_hd] at *; omega)))
  have N_p__p_3 := gz_hi (show ¬ (p = (p + 3)) from by (/-10-/first | omega | (simp only [gz_hd] at *; omega)))
  have N_p_2__p_3 := gz_hi (show ¬ ((p + 2) = (p + 3)) from by (/-11-/first | omega | (simp only [gz_hd] at *; omega)))
  have N_a1__p_4 := gz_hi (show ¬ (a1 = (p + 4)) from by (/-12-/first | omega | (simp only [gz_hd] at *; omega)))
  have N_p__p_4 := gz_hi (show ¬ (p = (p + 4)) from by (/-13-/first | omega | (simp only [gz_hd] at *; omega)))
  have N_p_2__p_4 := gz_hi (show ¬ ((p + 2) = (p + 4)) from by (/-14-/first | omega | (simp only [gz_hd] at *; omega)))
  have N_a1__p_6 := gz_hi (show ¬ (a1 = (p + 6)) from by (/-15-/first | omega | (simp only [gz_hd] at *; omega)))
  have N_a1__p_7 := gz_hi (show ¬ (a1 = (p + 7)) from by (/-16-/first | omega | (simp only [gz_hd] at *; omega)))
  have N_p__p_6 := gz_hi (show ¬ (p = (p + 6)) from by (/-17-/first | omega | (simp only [gz_hd] at *; omega)))
  have N_p__p_7 := gz_hi (show ¬ (p = (p + 7)) from by (/-18-/first | omega | (simp only [gz_hd] at *; omega)))
  have N_p_2__p_6 := gz_hi (show ¬ ((p + 2) = (p + 6)) from by (/-19-/first | omega | (simp only [gz_hd] at *; omega)))
  have N_p_2__p_7 := gz_hi (show ¬ ((p + 2) = (p + 7)) from by (/-20-/first | omega | (simp only [gz_hd] at *; omega)))
  have N_p_4__p_6 := gz_hi (show ¬ ((p + 4) = (p + 6)) from by (/-21-/first | omega | (simp only [gz_hd] at *; omega)))
  have N_p_4__p_7 := gz_hi (show ¬ ((p + 4) = (p + 7)) from by (/-22-/first | omega | (simp only [gz_hd] at *; omega)))
  have N_p_3__p_6 := gz_hi (show ¬ ((p + 3) = (p + 6)) from by (/-23-/first | omega | (simp only [gz_hd] at *; omega)))
  have N_p_3__p_7 := gz_hi (show ¬ ((p + 3) = (p + 7)) from by (/-24-/first | omega | (simp only [gz_hd] at *; omega)))
  have N_p_2__p := gz_hi (show ¬ ((p + 2) = p) from by (/-25-/first | omega | (simp only [gz_hd] at *; omega)))
  have N_p_4__p := gz_hi (show ¬ ((p + 4) = p) from by (/-26-/first | omega | (simp only [gz_hd] at *; omega)))
  have N_p_3__p := gz_hi (show ¬ ((p + 3) = p) from by (/-27-/first | omega | (simp only [gz_hd] at *; omega)))
  have f1 := gz_hi ((show 0 ≤ I a1 11 ∧ I a1 11 ≤ 64 from gc_in2 hI (gz_sh R_a1) rfl rfl rfl))
  have f2 := gz_hi ((show 0 ≤ I p 8 ∧ I p 8 ≤ 64 from gc_in2 hI (gz_sh R_p) rfl rfl rfl))
  have L23 : ((I a1 11 = I a1 11)) → gv_X (gc_E2 ws0 tb 4 (yX2_build, cX2_build, 7, none) kX2_build) (gv_Q cX2_build none sh (fun r hₚ => (∃ (Iₚ : gr_I) (Jₚ : gr_J), hₚ = gc_h sh Iₚ Jₚ A ∧ gc_Inv ro Iₚ ∧ (∀ q j : Nat, ((q = p ∧ j = 6) ∨ (q = p ∧ j = 7) ∨ (q = p ∧ j = 8) ∨ (q = p ∧ j = 9) ∨ q = (p + 1) ∨ q = (p + 2) ∨ q = (p + 3) ∨ q = (p + 4) ∨ q = (p + 6) ∨ q = (p + 7)) ∨ Iₚ q j = I q j) ∧ (∀ q j : Nat, (False) ∨ Jₚ q j = J q j) ∧ r = none ∧ (gc_FB p (24 * I a1 11) Iₚ) ∧ (Iₚ p 8 = I a1 11) ∧ (Iₚ p 9 = I a1 6) ∧ ¬ Iₚ p 6 = Iₚ p 7 ∧ fo_FC I Iₚ a1 p))) (23, [(0, .inr (.inr (some p))), (1, .inr (.inr (some a1)))], [], sh, gc_h sh I J A) := by
    intro m_3
    have e0_3 := m_3
    have L54 : ∀ (n9 : Nat) (I6 : gr_I) (J7 : gr_J) (v2_8 : Int), (v2_8 - (-2)).toNat < n9 → gc_Inv ro I6 → (∀ q j : Nat, ((q = p ∧ j = 6) ∨ (q = p ∧ j = 7) ∨ (q = p ∧ j = 8) ∨ (q = p ∧ j = 9) ∨ q = (p + 1) ∨ q = (p + 2) ∨ q = (p + 3) ∨ q = (p + 4) ∨ q = (p + 6) ∨ q = (p + 7)) ∨ I6 q j = I q j) → (∀ q j : Nat, (False) ∨ J7 q j = J q j) → gc_FB p (24 * I a1 11) I6 → (((-1) ≤ v2_8 ∧ v2_8 ≤ 63) ∧ (v2_8 < I a1 11) ∧ (I6 p 8 = I a1 11) ∧ (I6 a1 11 = I a1 11)) → (I6 p 9 = I a1 6) → fo_D I I6 a1 p v2_8 23 → gv_X (gc_E2 ws0 tb 4 (yX2_build, cX2_build, 7, none) kX2_build) (gv_Q cX2_build none sh (fun r hₚ => (∃ (Iₚ : gr_I) (Jₚ : gr_J), hₚ = gc_h sh Iₚ Jₚ A ∧ gc_Inv ro Iₚ ∧ (∀ q j : Nat, ((q = p ∧ j = 6) ∨ (q = p ∧ j = 7) ∨ (q = p ∧ j = 8) ∨ (q = p ∧ j = 9) ∨ q = (p + 1) ∨ q = (p + 2) ∨ q = (p + 3) ∨ q = (p + 4) ∨ q = (p + 6) ∨ q = (p + 7)) ∨ Iₚ q j = I q j) ∧ (∀ q j : Nat, (False) ∨ Jₚ q j = J q j) ∧ r = none ∧ (gc_FB p (24 * I a1 11) Iₚ) ∧ (Iₚ p 8 = I a1 11) ∧ (Iₚ p 9 = I a1 6) ∧ ¬ Iₚ p 6 = Iₚ p 7 ∧ fo_FC I Iₚ a1 p))) (54, [(0, .inr (.inr (some p))), (1, .inr (.inr (some a1))), (2, .inl v2_8)], [], sh, gc_h sh I6 J7 A) := d_X2_build_p_L54 (ws0 := ws0) (tb := tb) hws htb sh ro I J A hI p a1 hp h_a1 G_a1 x0 x1 x2 x3 y0 y1 y2 y3
    refine gv_run 2 true hD (pcₚ := 25) (lvₚ := [(0, .inr (.inr (some p))), (1, .inr (.inr (some a1)))]) (stₚ := [.inr (.inr (some a1)), .inr (.inr (some p))]) (hₚ := gc_h sh I J A) (C := ((True ∧ True) ∧ True)) rfl ⟨⟨trivial, trivial⟩, trivial⟩ ?_
    refine gv_get hD rfl rfl S_a1 ⟨by decide, (gz_sh B_a1)⟩ (gc_hI S_a1 rfl) ?_
    show gv_X _ _ (28, [(0, .inr (.inr (some p))), (1, .inr (.inr (some a1)))], [.inl (I a1 11), .inr (.inr (some p))], sh, gc_h sh I J A)
    refine gv_put hD rfl rfl S_p ⟨by decide, (gz_sh B_p)⟩ rfl trivial ?_
    refine gc_st (k := 8) hI S_p rfl (gz_sh R_p) (lo := 0) (hi := 64) rfl rfl (by (/-228-/first | (have o1 := gz_sh f1; omega) | (simp only [gz_hd] at *; omega))) (by (/-229-/first | (have o1 := gz_sh f1; omega) | (simp only [gz_hd] at *; omega))) (fun I76 hI76 q77 p77 => ?_)
    have FI76 := gc_frs (W := fun q j => (q = p ∧ j = 6) ∨ (q = p ∧ j = 7) ∨ (q = p ∧ j = 8) ∨ (q = p ∧ j = 9) ∨ q = (p + 1) ∨ q = (p + 2) ∨ q = (p + 3) ∨ q = (p + 4) ∨ q = (p + 6) ∨ q = (p + 7)) FI (Or.inr (Or.inr (Or.inl ⟨rfl, rfl⟩))) p77
    have t78 := gz_hi (p77 a1 11 (fun h => absurd h.2 (by first | exact gz_ne rfl | decide)))
    show gv_X _ _ (31, [(0, .inr (.inr (some p))), (1, .inr (.inr (some a1)))], [], sh, gc_h sh I76 J A)
    refine gv_run 2 true hD (pcₚ := 33) (lvₚ := [(0, .inr (.inr (some p))), (1, .inr (.inr (some a1)))]) (stₚ := [.inr (.inr (some a1)), .inr (.inr (some p))]) (hₚ := gc_h sh I76 J A) (C := ((True ∧ True) ∧ True)) rfl ⟨⟨trivial, trivial⟩, trivial⟩ ?_
    have f80 := gz_hi ((show 0 ≤ I76 a1 6 ∧ I76 a1 6 ≤ 24 from gc_in2 hI76 (gz_sh R_a1) rfl rfl rfl))
    refine gv_get hD rfl rfl S_a1 ⟨by decide, (gz_sh B_a1)⟩ (gc_hI S_a1 rfl) ?_
    show gv_X _ _ (36, [(0, .inr (.inr (some p))), (1, .inr (.inr (some a1)))], [.inl (I76 a1 6), .inr (.inr (some p))], sh, gc_h sh I76 J A)
    refine gv_put hD rfl rfl S_p ⟨by decide, (gz_sh B_p)⟩ rfl trivial ?_
    refine gc_st (k := 9) hI76 S_p rfl (gz_sh R_p) (lo := 0) (hi := 24) rfl rfl (by (/-230-/first | (have o1 := gz_sh f80; omega) | (simp only [gz_hd] at *; omega))) (by (/-231-/first | (have o1 := gz_sh f80; omega) | (simp only [gz_hd] at *; omega))) (fun I81 hI81 q82 p82 => ?_)
    have FI81 := gc_frs (W := fun q j => (q = p ∧ j = 6) ∨ (q = p ∧ j = 7) ∨ (q = p ∧ j = 8) ∨ (q = p ∧ j = 9) ∨ q = (p + 1) ∨ q = (p + 2) ∨ q = (p + 3) ∨ q = (p + 4) ∨ q = (p + 6) ∨ q = (p + 7)) FI76 (Or.inr (Or.inr (Or.inr (Or.inl ⟨rfl, rfl⟩)))) p82
    have t83 := gz_hi (p82 a1 11 (fun h => absurd h.2 (by first | exact gz_ne rfl | decide)))
    have t84 := gz_hi (p82 p 8 (fun h => absurd h.2 (by first | exact gz_ne rfl | decide)))
    show gv_X _ _ (39, [(0, .inr (.inr (some p))), (1, .inr (.inr (some a1)))], [], sh, gc_h sh I81 J A)
    refine gv_run 1 true hD (pcₚ := 40) (lvₚ := [(0, .inr (.inr (some p))), (1, .inr (.inr (some a1)))]) (stₚ := [.inr (.inr (some p))]) (hₚ := gc_h sh I81 J A) (C := (True ∧ True)) rfl ⟨trivial, trivial⟩ ?_
    refine gv_get hD rfl rfl S_p ⟨by decide, (gz_sh B_p)⟩ (gc_hA S_p rfl A_p_4) ?_
    show gv_X _ _ (43, [(0, .inr (.inr (some p))), (1, .inr (.inr (some a1)))], [.inr (.inr (some (p + 4)))], sh, gc_h sh I81 J A)
    refine gv_run 1 true hD (pcₚ := 44) (lvₚ := [(0, .inr (.inr (some p))), (1, .inr (.inr (some a1)))]) (stₚ := [.inl (-1), .inr (.inr (some (p + 4)))]) (hₚ := gc_h sh I81 J A) (C := (True ∧ True)) rfl ⟨trivial, trivial⟩ ?_
    obtain ⟨I86, E85, hI86, g85, q85⟩ := gj_fill (ws0 := ws0) (tb := tb) sh ro I81 J A hI81 (p + 4) 512 (-1) S_p_4 (gz_sh B_p_4) (by decide) ⟨by (/-232-/first | omega | (simp only [gz_hd] at *; omega)), by (/-233-/first | omega | (simp only [gz_hd] at *; omega))⟩ (fun k => by rw [(gz_sh R_p_4)]; exact ⟨by show (-1) ≤ _; (/-234-/first | omega | (simp only [gz_hd] at *; omega)), by show _ ≤ 1535; (/-235-/first | omega | (simp only [gz_hd] at *; omega))⟩)
    refine gv_callS hD rfl (As := [.inr (.inr (some (p + 4))), .inl (-1)]) (st := []) rfl (gc_lS2 hws rfl) (Nat.le_of_ble_eq_true rfl) (gz_Ev_mono (d := 1) (by decide) E85) ?_
    have FI86 := gc_frc (W := fun q j => (q = p ∧ j = 6) ∨ (q = p ∧ j = 7) ∨ (q = p ∧ j = 8) ∨ (q = p ∧ j = 9) ∨ q = (p + 1) ∨ q = (p + 2) ∨ q = (p + 3) ∨ q = (p + 4) ∨ q = (p + 6) ∨ q = (p + 7)) (V := fun q j => q = (p + 4)) FI81 (fun q j h => (Or.inr (Or.inr (Or.inr (Or.inr (Or.inr (Or.inr (Or.inr (Or.inl h))))))))) g85
    have KFB_I86 : gc_FB p (24 * I a1 11) I86 := gc_FB_fill x2 (by (/-236-/first | omega | (simp only [gz_hd] at *; omega))) (by (/-237-/first | (have o1 := gz_sh f1; omega) | (simp only [gz_hd] at *; omega))) q85 (fun k => ((g85 (p + 3) k).resolve_left (by (/-238-/first | omega | (simp only [gz_hd] at *; omega)))).trans (((p82 (p + 3) k (fun h => absurd h.1 (by (/-239-/first | (have o1 := gz_sh N_p_3__p; omega) | (simp only [gz_hd] at *; omega))))).trans (p77 (p + 3) k (fun h => absurd h.1 (by (/-240-/first | (have o1 := gz_sh N_p_3__p; omega) | (simp only [gz_hd] at *; omega))))))))
    have t88 := gz_hi ((g85 a1 11).resolve_left (fun h => absurd h (gz_sh N_a1__p_4)))
    have t89 := gz_hi ((g85 p 8).resolve_left (fun h => absurd h (gz_sh N_p__p_4)))
    show gv_X _ _ (47, [(0, .inr (.inr (some p))), (1, .inr (.inr (some a1)))], [], sh, gc_h sh I86 J A)
    refine gv_run 1 true hD (pcₚ := 48) (lvₚ := [(0, .inr (.inr (some p))), (1, .inr (.inr (some a1)))]) (stₚ := [.inr (.inr (some a1))]) (hₚ := gc_h sh I86 J A) (C := (True ∧ True)) rfl ⟨trivial, trivial⟩ ?_
    refine gv_get hD rfl rfl S_a1 ⟨by decide, (gz_sh B_a1)⟩ (gc_hI S_a1 rfl) ?_
    show gv_X _ _ (51, [(0, .inr (.inr (some p))), (1, .inr (.inr (some a1)))], [.inl (I86 a1 11)], sh, gc_h sh I86 J A)
    refine gv_run 3 true hD (pcₚ := 54) (lvₚ := [(2, .inl ((I86 a1 11) - 1)), (0, .inr (.inr (some p))), (1, .inr (.inr (some a1)))]) (stₚ := []) (hₚ := gc_h sh I86 J A) (C := (((True ∧ True) ∧ True) ∧ True)) rfl ⟨⟨⟨trivial, trivial⟩, trivial⟩, trivial⟩ ?_
    refine gv_pick [1, 2, 0] rfl ?_
    exact L54 _ I86 J (((I86 a1 11) - 1)) (Nat.lt_succ_self _) hI86 FI86 FJ KFB_I86 (by (/-241-/first | (and_intros; (have o1 := gz_sh f1; have o2 := gz_sh t78; have o3 := gz_sh t83; have o4 := gz_sh t88; omega); (have o1 := gz_sh f1; have o2 := gz_sh t78; have o3 := gz_sh t83; have o4 := gz_sh t88; omega); (have o1 := gz_sh t78; have o2 := gz_sh t83; have o3 := gz_sh t88; omega); (have o1 := gz_sh t84; have o2 := gz_sh t89; omega); (have o1 := gz_sh t78; have o2 := gz_sh t83; have o3 := gz_sh t88; omega)) | (simp only [gz_hd] at *; omega))) (((g85 p 9).resolve_left (by (/-242-/first | (have o1 := gz_sh N_p__p_4; omega) | (simp only [gz_hd] at *; omega)))).trans (q82.trans (p77 a1 6 (fun h => absurd h.1 (by (/-243-/first | omega | (simp only [gz_hd] at *; omega))))))) (fo_D_0 (by rw [show I86 p 6 = I p 6 from ((g85 p 6).resolve_left (by (/-244-/first | (have o1 := gz_sh N_p__p_4; omega) | (simp only [gz_hd] at *; omega)))).trans ((p82 p 6 (fun h => absurd h.2 (by first | exact gz_ne rfl | decide))).trans (p77 p 6 (fun h => absurd h.2 (by first | exact gz_ne rfl | decide)))), show I86 p 7 = I p 7 from ((g85 p 7).resolve_left (by (/-245-/first | (have o1 := gz_sh N_p__p_4; omega) | (simp only [gz_hd] at *; omega)))).trans ((p82 p 7 (fun h => absurd h.2 (by first | exact gz_ne rfl | decide))).trans (p77 p 7 (fun h => absurd h.2 (by first | exact gz_ne rfl | decide))))]; exact y0) (by (/-246-/first | (have o1 := gz_sh t78; have o2 := gz_sh t83; have o3 := gz_sh t88; omega) | (simp only [gz_hd] at *; omega))) (fun w9 => (show 0 ≤ fo_cs I a1 w9 ∧ fo_cs I a1 w9 ≤ 24 from gc_in hI (gz_sh R_a1_13) rfl rfl).2) q85)
  refine gv_run 1 true hD (pcₚ := 1) (lvₚ := [(0, .inr (.inr (some p))), (1, .inr (.inr (some a1)))]) (stₚ := [.inr (.inr (some p))]) (hₚ := gc_h sh I J A) (C := (True ∧ True)) rfl ⟨trivial, trivial⟩ ?_
  refine gv_get hD rfl rfl S_p ⟨by decide, (gz_sh B_p)⟩ (gc_hI S_p rfl) ?_
  show gv_X _ _ (4, [(0, .inr (.inr (some p))), (1, .inr (.inr (some a1)))], [.inl (I p 8)], sh, gc_h sh I J A)
  refine gv_run 1 true hD (pcₚ := 5) (lvₚ := [(0, .inr (.inr (some p))), (1, .inr (.inr (some a1)))]) (stₚ := [.inr (.inr (some a1)), .inl (I p 8)]) (hₚ := gc_h sh I J A) (C := (True ∧ True)) rfl ⟨trivial, trivial⟩ ?_
  refine gv_get hD rfl rfl S_a1 ⟨by decide, (gz_sh B_a1)⟩ (gc_hI S_a1 rfl) ?_
  show gv_X _ _ (8, [(0, .inr (.inr (some p))), (1, .inr (.inr (some a1)))], [.inl (I a1 11), .inl (I p 8)], sh, gc_h sh I J A)
  refine gv_icmp_ne (t := 23) hD rfl rfl ⟨⟨by (/-247-/first | (have o1 := gz_sh f2; omega) | (simp only [gz_hd] at *; omega)), by (/-248-/first | (have o1 := gz_sh f2; omega) | (simp only [gz_hd] at *; omega))⟩, ⟨by (/-249-/first | (have o1 := gz_sh f1; omega) | (simp only [gz_hd] at *; omega)), by (/-250-/first | (have o1 := gz_sh f1; omega) | (simp only [gz_hd] at *; omega))⟩⟩ (fun c95 => ?_) (fun c95 => ?_)
  · show gv_X _ _ (23, [(0, .inr (.inr (some p))), (1, .inr (.inr (some a1)))], [], sh, gc_h sh I J A)
    exact L23 (by (/-251-/first | omega | (simp only [gz_hd] at *; omega)))
  · show gv_X _ _ (11, [(0, .inr (.inr (some p))), (1, .inr (.inr (some a1)))], [], sh, gc_h sh I J A)
    refine gv_run 1 true hD (pcₚ := 12) (lvₚ := [(0, .inr (.inr (some p))), (1, .inr (.inr (some a1)))]) (stₚ := [.inr (.inr (some p))]) (hₚ := gc_h sh I J A) (C := (True ∧ True)) rfl ⟨trivial, trivial⟩ ?_
    have f96 := gz_hi ((show 0 ≤ I p 9 ∧ I p 9 ≤ 24 from gc_in2 hI (gz_sh R_p) rfl rfl rfl))
    refine gv_get hD rfl rfl S_p ⟨by decide, (gz_sh B_p)⟩ (gc_hI S_p rfl) ?_
    show gv_X _ _ (15, [(0, .inr (.inr (some p))), (1, .inr (.inr (some a1)))], [.inl (I p 9)], sh, gc_h sh I J A)
    refine gv_run 1 true hD (pcₚ := 16) (lvₚ := [(0, .inr (.inr (some p))), (1, .inr (.inr (some a1)))]) (stₚ := [.inr (.inr (some a1)), .inl (I p 9)]) (hₚ := gc_h sh I J A) (C := (True ∧ True)) rfl ⟨trivial, trivial⟩ ?_
    have f97 := gz_hi ((show 0 ≤ I a1 6 ∧ I a1 6 ≤ 24 from gc_in2 hI (gz_sh R_a1) rfl rfl rfl))
    refine gv_get hD rfl rfl S_a1 ⟨by decide, (gz_sh B_a1)⟩ (gc_hI S_a1 rfl) ?_
    show gv_X _ _ (19, [(0, .inr (.inr (some p))), (1, .inr (.inr (some a1)))], [.inl (I a1 6), .inl (I p 9)], sh, gc_h sh I J A)
    refine gv_icmp_ne (t := 23) hD rfl rfl ⟨⟨by (/-252-/first | (have o1 := gz_sh f96; omega) | (simp only [gz_hd] at *; omega)), by (/-253-/first | (have o1 := gz_sh f96; omega) | (simp only [gz_hd] at *; omega))⟩, ⟨by (/-254-/first | (have o1 := gz_sh f97; omega) | (simp only [gz_hd] at *; omega)), by (/-255-/first | (have o1 := gz_sh f97; omega) | (simp only [gz_hd] at *; omega))⟩⟩ (fun c98 => ?_) (fun c98 => ?_)
    · show gv_X _ _ (23, [(0, .inr (.inr (some p))), (1, .inr (.inr (some a1)))], [], sh, gc_h sh I J A)
      exact L23 (by (/-256-/first | omega | (simp only [gz_hd] at *; omega)))
    · show gv_X _ _ (22, [(0, .inr (.inr (some p))), (1, .inr (.inr (some a1)))], [], sh, gc_h sh I J A)
      exact gv_vret hD rfl ⟨I, J, rfl, hI, FI, FJ, ⟨rfl, (by rw [show I a1 11 = I p 8 from by (/-257-/first | omega | (simp only [gz_hd] at *; omega))]; exact x2), by (/-258-/first | omega | (simp only [gz_hd] at *; omega)), by (/-259-/first | omega | (simp only [gz_hd] at *; omega)), y0, y3 (by (/-260-/first | omega | (simp only [gz_hd] at *; omega))) (by (/-261-/first | omega | (simp only [gz_hd] at *; omega)))⟩⟩
