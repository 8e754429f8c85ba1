def gc_FB (p : Nat) (wb : Int) (I : gr_I) : Prop := (∀ h : Nat, h < 512 → I (p + 4) h < wb) ∧ ∀ d : Nat, I (p + 3) d ≤ 0 ∨ I (p + 3) d < wb
theorem gc_FB_fr {p : Nat} {wb : Int} {I Iₚ : gr_I} (h : gc_FB p wb I) (h4 : ∀ k, Iₚ (p + 4) k = I (p + 4) k) (h3 : ∀ k, Iₚ (p + 3) k = I (p + 3) k) : gc_FB p wb Iₚ := ⟨fun k hk => by rw [h4]; exact h.1 k hk, fun k => by rw [h3]; exact h.2 k⟩
theorem gc_FB_c {p k : Nat} {wb : Int} {I Iₚ : gr_I} (h : gc_FB p wb I) (hp : ∀ q j, ¬ (q = p + 3 ∧ j = k) → Iₚ q j = I q j) (hz : Iₚ (p + 3) k < wb) : gc_FB p wb Iₚ := ⟨fun j hj => by rw [hp _ _ (fun e => by have := e.1; omega)]; exact h.1 j hj, fun j => by
  by_cases e : j = k
  · rw [e]; exact Or.inr hz
  · rw [hp _ _ (fun e2 => e e2.2)]; exact h.2 j⟩
theorem gc_FB_h {p k : Nat} {wb : Int} {I Iₚ : gr_I} (h : gc_FB p wb I) (hp : ∀ q j, ¬ (q = p + 4 ∧ j = k) → Iₚ q j = I q j) (hz : Iₚ (p + 4) k < wb) : gc_FB p wb Iₚ := ⟨fun j hj => by
  by_cases e : j = k
  · rw [e]; exact hz
  · rw [hp _ _ (fun e2 => e e2.2)]; exact h.1 j hj, fun j => by rw [hp _ _ (fun e => by have := e.1; omega)]; exact h.2 j⟩
theorem gc_FB_fill {p : Nat} {wb wb' : Int} {I Iₚ : gr_I} (h : gc_FB p wb I) (hb : wb ≤ wb') (h0 : 0 ≤ wb') (hq : ∀ j, j < 512 → Iₚ (p + 4) j = -1) (h3 : ∀ k, Iₚ (p + 3) k = I (p + 3) k) : gc_FB p wb' Iₚ := ⟨fun k hk => by rw [hq k hk]; omega, fun k => by rw [h3]; exact (h.2 k).imp id (fun e => by omega)⟩
set_option maxHeartbeats 8000000 in
set_option maxRecDepth 100000 in
theorem d_X2_build_0_L54 {ws0 : List Cond} {tb : String → gz_T} (hws : gc_Ws ws0) (htb : gc_tbs tb) (sh : gz_Sh) (ro : Nat → Nat) (I : gr_I) (J : gr_J) (A : gc_A) (hI : gc_Inv ro I) (p : Nat) (a1 : Nat) (hp : gc_isForms sh ro A p) (h_a1 : gc_isTongue sh ro A a1) (G_a1 : 144 ≤ a1)  (x0 : gc_sc (a1 + 10) I) (x1 : p = a1 + 17) (x2 : gc_FB p (24 * I p 8) I) (x3 : I p 8 ≤ I a1 11) : ∀ (n9 : Nat) (I10 : gr_I) (J11 : gr_J) (v2_12 : Int), (v2_12 - (-2)).toNat < n9 → gc_Inv ro I10 → (∀ q j : Nat, ((q = p ∧ j = 6) ∨ (q = p ∧ j = 7) ∨ (q = p ∧ j = 8) ∨ (q = p ∧ j = 9) ∨ q = (p + 1) ∨ q = (p + 2) ∨ q = (p + 3) ∨ q = (p + 4) ∨ q = (p + 6) ∨ q = (p + 7)) ∨ I10 q j = I q j) → (∀ q j : Nat, (False) ∨ J11 q j = J q j) → gc_FB p (24 * I a1 11) I10 → (((-1) ≤ v2_12 ∧ v2_12 ≤ 63) ∧ (v2_12 < I a1 11) ∧ (I10 p 8 = I a1 11) ∧ (I10 a1 11 = I a1 11) ∧ (I p 6 = I p 7 ∨ ¬ I10 p 6 = I10 p 7)) → gv_X (gc_E2 ws0 tb 4 (yX2_build, cX2_build, 7, none) kX2_build) (gv_Q cX2_build none sh (fun r hₚ => (∃ (Iₚ : gr_I) (Jₚ : gr_J), hₚ = gc_h sh Iₚ Jₚ A ∧ gc_Inv ro Iₚ ∧ (∀ q j : Nat, ((q = p ∧ j = 6) ∨ (q = p ∧ j = 7) ∨ (q = p ∧ j = 8) ∨ (q = p ∧ j = 9) ∨ q = (p + 1) ∨ q = (p + 2) ∨ q = (p + 3) ∨ q = (p + 4) ∨ q = (p + 6) ∨ q = (p + 7)) ∨ Iₚ q j = I q j) ∧ (∀ q j : Nat, (False) ∨ Jₚ q j = J q j) ∧ r = none ∧ (gc_FB p (24 * I a1 11) Iₚ) ∧ (Iₚ p 8 = I a1 11) ∧ (I p 6 = I p 7 ∨ ¬ Iₚ p 6 = Iₚ p 7)))) (54, [(0, .inr (.inr (some p))), (1, .inr (.inr (some a1))), (2, .inl v2_12)], [], sh, gc_h sh I10 J11 A) := by
  have FI : ∀ q j : Nat, ((q = p ∧ j = 6) ∨ (q = p ∧ j = 7) ∨ (q = p ∧ j = 8) ∨ (q = p ∧ j = 9) ∨ q = (p + 1) ∨ q = (p + 2) ∨ q = (p + 3) ∨ q = (p + 4) ∨ q = (p + 6) ∨ q = (p + 7)) ∨ I q j = I q j := fun _ _ => Or.inr rfl
  have FJ : ∀ q j : Nat, (False) ∨ J q j = J q j := fun _ _ => Or.inr rfl
  obtain ⟨S_p, R_p, B_p, A_p_0, S_20, R_20, B_20, A_p_1, S_p_1, R_p_1, B_p_1, A_p_2, S_p_2, R_p_2, B_p_2, A_p_3, S_p_3, R_p_3, B_p_3, A_p_4, S_p_4, R_p_4, B_p_4, A_p_5, S_p_5, R_p_5, B_p_5, S_p_6, R_p_6, B_p_6, S_p_7, R_p_7, B_p_7⟩ := id hp
  replace R_p := gz_hi R_p
  replace B_p := gz_hi B_p
  replace R_20 := gz_hi R_20
  replace B_20 := gz_hi B_20
  replace R_p_1 := gz_hi R_p_1
  replace B_p_1 := gz_hi B_p_1
  replace R_p_2 := gz_hi R_p_2
  replace B_p_2 := gz_hi B_p_2
  replace R_p_3 := gz_hi R_p_3
  replace B_p_3 := gz_hi B_p_3
  replace R_p_4 := gz_hi R_p_4
  replace B_p_4 := gz_hi B_p_4
  replace R_p_5 := gz_hi R_p_5
  replace B_p_5 := gz_hi B_p_5
  replace R_p_6 := gz_hi R_p_6
  replace B_p_6 := gz_hi B_p_6
  replace R_p_7 := gz_hi R_p_7
  replace B_p_7 := gz_hi B_p_7
  obtain ⟨S_a1, R_a1, B_a1, A_a1_0, h_a1_1, A_a1_1, h_a1_3, A_a1_2, S_a1_5, R_a1_5, B_a1_5, A_a1_3, S_a1_6, R_a1_6, B_a1_6, A_a1_4, h_a1_7, A_a1_5, S_a1_9, R_a1_9, B_a1_9, A_a1_7, S_a1_10, R_a1_10, B_a1_10, A_a1_8, h_a1_11, A_a1_9, S_a1_13, R_a1_13, B_a1_13, A_a1_10, S_a1_14, R_a1_14, B_a1_14, A_a1_12, S_a1_15, R_a1_15, B_a1_15, A_a1_14, S_a1_16, R_a1_16, B_a1_16, A_a1_15, h_a1_17⟩ := id h_a1
  replace R_a1 := gz_hi R_a1
  replace B_a1 := gz_hi B_a1
  replace R_a1_5 := gz_hi R_a1_5
  replace B_a1_5 := gz_hi B_a1_5
  replace R_a1_6 := gz_hi R_a1_6
  replace B_a1_6 := gz_hi B_a1_6
  replace R_a1_9 := gz_hi R_a1_9
  replace B_a1_9 := gz_hi B_a1_9
  replace R_a1_10 := gz_hi R_a1_10
  replace B_a1_10 := gz_hi B_a1_10
  replace R_a1_13 := gz_hi R_a1_13
  replace B_a1_13 := gz_hi B_a1_13
  replace R_a1_14 := gz_hi R_a1_14
  replace B_a1_14 := gz_hi B_a1_14
  replace R_a1_15 := gz_hi R_a1_15
  replace B_a1_15 := gz_hi B_a1_15
  replace R_a1_16 := gz_hi R_a1_16
  replace B_a1_16 := gz_hi B_a1_16
  obtain ⟨S_a1_1, R_a1_1, B_a1_1, A_a1_1_0, S_a1_1_1, R_a1_1_1, B_a1_1_1, Q0_a1_1, Q1_a1_1, Q2_a1_1⟩ := id h_a1_1
  replace R_a1_1 := gz_hi R_a1_1
  replace B_a1_1 := gz_hi B_a1_1
  replace R_a1_1_1 := gz_hi R_a1_1_1
  replace B_a1_1_1 := gz_hi B_a1_1_1
  obtain ⟨S_a1_3, R_a1_3, B_a1_3, A_a1_3_0, S_a1_3_1, R_a1_3_1, B_a1_3_1, Q0_a1_3, Q1_a1_3, Q2_a1_3⟩ := id h_a1_3
  replace R_a1_3 := gz_hi R_a1_3
  replace B_a1_3 := gz_hi B_a1_3
  replace R_a1_3_1 := gz_hi R_a1_3_1
  replace B_a1_3_1 := gz_hi B_a1_3_1
  obtain ⟨S_a1_7, R_a1_7, B_a1_7, A_a1_7_0, S_a1_7_1, R_a1_7_1, B_a1_7_1, Q0_a1_7, Q1_a1_7, Q2_a1_7⟩ := id h_a1_7
  replace R_a1_7 := gz_hi R_a1_7
  replace B_a1_7 := gz_hi B_a1_7
  replace R_a1_7_1 := gz_hi R_a1_7_1
  replace B_a1_7_1 := gz_hi B_a1_7_1
  obtain ⟨S_a1_11, R_a1_11, B_a1_11, A_a1_11_0, S_a1_11_1, R_a1_11_1, B_a1_11_1, Q0_a1_11, Q1_a1_11, Q2_a1_11⟩ := id h_a1_11
  replace R_a1_11 := gz_hi R_a1_11
  replace B_a1_11 := gz_hi B_a1_11
  replace R_a1_11_1 := gz_hi R_a1_11_1
  replace B_a1_11_1 := gz_hi B_a1_11_1
  obtain ⟨S_a1_17, R_a1_17, B_a1_17, A_a1_17_0, S_20, R_20, B_20, A_a1_17_1, S_a1_17_1, R_a1_17_1, B_a1_17_1, A_a1_17_2, S_a1_17_2, R_a1_17_2, B_a1_17_2, A_a1_17_3, S_a1_17_3, R_a1_17_3, B_a1_17_3, A_a1_17_4, S_a1_17_4, R_a1_17_4, B_a1_17_4, A_a1_17_5, S_a1_17_5, R_a1_17_5, B_a1_17_5, S_a1_17_6, R_a1_17_6, B_a1_17_6, S_a1_17_7, R_a1_17_7, B_a1_17_7⟩ := id h_a1_17
  replace R_a1_17 := gz_hi R_a1_17
  replace B_a1_17 := gz_hi B_a1_17
  replace R_20 := gz_hi R_20
  replace B_20 := gz_hi B_20
  replace R_a1_17_1 := gz_hi R_a1_17_1
  replace B_a1_17_1 := gz_hi B_a1_17_1
  replace R_a1_17_2 := gz_hi R_a1_17_2
  replace B_a1_17_2 := gz_hi B_a1_17_2
  replace R_a1_17_3 := gz_hi R_a1_17_3
  replace B_a1_17_3 := gz_hi B_a1_17_3
  replace R_a1_17_4 := gz_hi R_a1_17_4
  replace B_a1_17_4 := gz_hi B_a1_17_4
  replace R_a1_17_5 := gz_hi R_a1_17_5
  replace B_a1_17_5 := gz_hi B_a1_17_5
  replace R_a1_17_6 := gz_hi R_a1_17_6
  replace B_a1_17_6 := gz_hi B_a1_17_6
  replace R_a1_17_7 := gz_hi R_a1_17_7
  replace B_a1_17_7 := gz_hi B_a1_17_7
  have hD : gv_D (gc_E2 ws0 tb 4 (yX2_build, cX2_build, 7, none) kX2_build) := gq_of oX2_build
  have N_a1__p_2 := gz_hi (show ¬ (a1 = (p + 2)) from by (/-0-/first | omega | (simp only [gz_hd] at *; omega)))
  have N_p__p_2 := gz_hi (show ¬ (p = (p + 2)) from by (/-1-/first | omega | (simp only [gz_hd] at *; omega)))
  have N_p_4__p_2 := gz_hi (show ¬ ((p + 4) = (p + 2)) from by (/-2-/first | omega | (simp only [gz_hd] at *; omega)))
  have N_p_3__p_2 := gz_hi (show ¬ ((p + 3) = (p + 2)) from by (/-3-/first | omega | (simp only [gz_hd] at *; omega)))
  have N_p_4__p_1 := gz_hi (show ¬ ((p + 4) = (p + 1)) from by (/-4-/first | omega | (simp only [gz_hd] at *; omega)))
  have N_p_3__p_1 := gz_hi (show ¬ ((p + 3) = (p + 1)) from by (/-5-/first | omega | (simp only [gz_hd] at *; omega)))
  have N_a1__p_1 := gz_hi (show ¬ (a1 = (p + 1)) from by (/-6-/first | omega | (simp only [gz_hd] at *; omega)))
  have N_p__p_1 := gz_hi (show ¬ (p = (p + 1)) from by (/-7-/first | omega | (simp only [gz_hd] at *; omega)))
  have N_p_2__p_1 := gz_hi (show ¬ ((p + 2) = (p + 1)) from by (/-8-/first | omega | (simp only [gz_hd] at *; omega)))
  have N_a1__p_3 := gz_hi (show ¬ (a1 = (p + 3)) from by (/-9-/first | omega | (simp only [gz_hd] at *; omega)))
  have N_p__p_3 := gz_hi (show ¬ (p = (p + 3)) from by (/-10-/first | omega | (simp only [gz_hd] at *; omega)))
  have N_p_2__p_3 := gz_hi (show ¬ ((p + 2) = (p + 3)) from by (/-11-/first | omega | (simp only [gz_hd] at *; omega)))
  have N_a1__p_4 := gz_hi (show ¬ (a1 = (p + 4)) from by (/-12-/first | omega | (simp only [gz_hd] at *; omega)))
  have N_p__p_4 := gz_hi (show ¬ (p = (p + 4)) from by (/-13-/first | omega | (simp only [gz_hd] at *; omega)))
  have N_p_2__p_4 := gz_hi (show ¬ ((p + 2) = (p + 4)) from by (/-14-/first | omega | (simp only [gz_hd] at *; omega)))
  have N_a1__p_6 := gz_hi (show ¬ (a1 = (p + 6)) from by (/-15-/first | omega | (simp only [gz_hd] at *; omega)))
  have N_a1__p_7 := gz_hi (show ¬ (a1 = (p + 7)) from by (/-16-/first | omega | (simp only [gz_hd] at *; omega)))
  have N_p__p_6 := gz_hi (show ¬ (p = (p + 6)) from by (/-17-/first | omega | (simp only [gz_hd] at *; omega)))
  have N_p__p_7 := gz_hi (show ¬ (p = (p + 7)) from by (/-18-/first | omega | (simp only [gz_hd] at *; omega)))
  have N_p_2__p_6 := gz_hi (show ¬ ((p + 2) = (p + 6)) from by (/-19-/first | omega | (simp only [gz_hd] at *; omega)))
  have N_p_2__p_7 := gz_hi (show ¬ ((p + 2) = (p + 7)) from by (/-20-/first | omega | (simp only [gz_hd] at *; omega)))
  have N_p_4__p_6 := gz_hi (show ¬ ((p + 4) = (p + 6)) from by (/-21-/first | omega | (simp only [gz_hd] at *; omega)))
  have N_p_4__p_7 := gz_hi (show ¬ ((p + 4) = (p + 7)) from by (/-22-/first | omega | (simp only [gz_hd] at *; omega)))
  have N_p_3__p_6 := gz_hi (show ¬ ((p + 3) = (p + 6)) from by (/-23-/first | omega | (simp only [gz_hd] at *; omega)))
  have N_p_3__p_7 := gz_hi (show ¬ ((p + 3) = (p + 7)) from by (/-24-/first | omega | (simp only [gz_hd] at *; omega)))
  have N_p_2__p := gz_hi (show ¬ ((p + 2) = p) from by (/-25-/first | omega | (simp only [gz_hd] at *; omega)))
  have N_p_4__p := gz_hi (show ¬ ((p + 4) = p) from by (/-26-/first | omega | (simp only [gz_hd] at *; omega)))
  have N_p_3__p := gz_hi (show ¬ ((p + 3) = p) from by (/-27-/first | omega | (simp only [gz_hd] at *; omega)))
  have f1 := gz_hi ((show 0 ≤ I a1 11 ∧ I a1 11 ≤ 64 from gc_in2 hI (gz_sh R_a1) rfl rfl rfl))
  have f2 := gz_hi ((show 0 ≤ I p 8 ∧ I p 8 ≤ 64 from gc_in2 hI (gz_sh R_p) rfl rfl rfl))
  intro n9
  induction n9 with
  | zero => intro I10 J11 v2_12 hn; (/-28-/first | omega | (simp only [gz_hd] at *; omega))
  | succ n9 ih54 =>
    intro I10 J11 v2_12 hn hI10 FI10 FJ11 KFB_I10 m_12
    obtain ⟨hv2_12, e0_12, e1_12, e2_12, e3_12⟩ := gz_h5 m_12
    have L66 : ∀ (n9 : Nat) (I17 : gr_I) (J18 : gr_J) (v3_19 : Int), (v3_19 - (-2)).toNat < n9 → gc_Inv ro I17 → (∀ q j : Nat, ((q = p ∧ j = 6) ∨ (q = p ∧ j = 7) ∨ (q = p ∧ j = 8) ∨ (q = p ∧ j = 9) ∨ q = (p + 1) ∨ q = (p + 2) ∨ q = (p + 3) ∨ q = (p + 4) ∨ q = (p + 6) ∨ q = (p + 7)) ∨ I17 q j = I q j) → (∀ q j : Nat, (False) ∨ J18 q j = J q j) → gc_FB p (24 * I a1 11) I17 → ((0 ≤ v2_12 ∧ v2_12 ≤ 63) ∧ ((-1) ≤ v3_19 ∧ v3_19 ≤ 23) ∧ (v2_12 < I a1 11) ∧ (I17 p 8 = I a1 11) ∧ (I17 a1 11 = I a1 11) ∧ (I p 6 = I p 7 ∨ ¬ I17 p 6 = I17 p 7)) → gv_X (gc_E2 ws0 tb 4 (yX2_build, cX2_build, 7, none) kX2_build) (gv_Q cX2_build none sh (fun r hₚ => (∃ (Iₚ : gr_I) (Jₚ : gr_J), hₚ = gc_h sh Iₚ Jₚ A ∧ gc_Inv ro Iₚ ∧ (∀ q j : Nat, ((q = p ∧ j = 6) ∨ (q = p ∧ j = 7) ∨ (q = p ∧ j = 8) ∨ (q = p ∧ j = 9) ∨ q = (p + 1) ∨ q = (p + 2) ∨ q = (p + 3) ∨ q = (p + 4) ∨ q = (p + 6) ∨ q = (p + 7)) ∨ Iₚ q j = I q j) ∧ (∀ q j : Nat, (False) ∨ Jₚ q j = J q j) ∧ r = none ∧ (gc_FB p (24 * I a1 11) Iₚ) ∧ (Iₚ p 8 = I a1 11) ∧ (I p 6 = I p 7 ∨ ¬ Iₚ p 6 = Iₚ p 7)))) (66, [(0, .inr (.inr (some p))), (1, .inr (.inr (some a1))), (2, .inl v2_12), (3, .inl v3_19)], [], sh, gc_h sh I17 J18 A) := by
      intro n9
      induction n9 with
      | zero => intro I17 J18 v3_19 hn; (/-29-/first | omega | (simp only [gz_hd] at *; omega))
      | succ n9 ih66 =>
        intro I17 J18 v3_19 hn hI17 FI17 FJ18 KFB_I17 m_19
        clear hv2_12 e0_12 e1_12 e2_12 e3_12
        obtain ⟨hv2_12_19, hv3_19, e0_19, e1_19, e2_19, e3_19⟩ := gz_h6 m_19
        have L109 : ∀ (I24 : gr_I) (J25 : gr_J) (v4_26 : Int) (s1_26 : Int) (s2_26 : Int), gc_Inv ro I24 → (∀ q j : Nat, ((q = p ∧ j = 6) ∨ (q = p ∧ j = 7) ∨ (q = p ∧ j = 8) ∨ (q = p ∧ j = 9) ∨ q = (p + 1) ∨ q = (p + 2) ∨ q = (p + 3) ∨ q = (p + 4) ∨ q = (p + 6) ∨ q = (p + 7)) ∨ I24 q j = I q j) → (∀ q j : Nat, (False) ∨ J25 q j = J q j) → gc_FB p (24 * I a1 11) I24 → ((0 ≤ v2_12 ∧ v2_12 ≤ 63) ∧ (0 ≤ v3_19 ∧ v3_19 ≤ 23) ∧ (0 ≤ v4_26 ∧ v4_26 ≤ 1535) ∧ (0 ≤ s1_26 ∧ s1_26 ≤ 1535) ∧ ((-1) ≤ s2_26 ∧ s2_26 ≤ 24) ∧ (v2_12 < I a1 11) ∧ (I24 p 8 = I a1 11) ∧ (v4_26 = v2_12 * 24 + v3_19) ∧ (I24 a1 11 = I a1 11) ∧ (I p 6 = I p 7 ∨ ¬ I24 p 6 = I24 p 7)) → gv_X (gc_E2 ws0 tb 4 (yX2_build, cX2_build, 7, none) kX2_build) (gv_Q cX2_build none sh (fun r hₚ => (∃ (Iₚ : gr_I) (Jₚ : gr_J), hₚ = gc_h sh Iₚ Jₚ A ∧ gc_Inv ro Iₚ ∧ (∀ q j : Nat, ((q = p ∧ j = 6) ∨ (q = p ∧ j = 7) ∨ (q = p ∧ j = 8) ∨ (q = p ∧ j = 9) ∨ q = (p + 1) ∨ q = (p + 2) ∨ q = (p + 3) ∨ q = (p + 4) ∨ q = (p + 6) ∨ q = (p + 7)) ∨ Iₚ q j = I q j) ∧ (∀ q j : Nat, (False) ∨ Jₚ q j = J q j) ∧ r = none ∧ (gc_FB p (24 * I a1 11) Iₚ) ∧ (Iₚ p 8 = I a1 11) ∧ (I p 6 = I p 7 ∨ ¬ Iₚ p 6 = Iₚ p 7)))) (109, [(0, .inr (.inr (some p))), (1, .inr (.inr (some a1))), (2, .inl v2_12), (3, .inl v3_19), (4, .inl v4_26)], [.inl s2_26, .inl s1_26, .inr (.inr (some (p + 2)))], sh, gc_h sh I24 J25 A) := by
          intro I24 J25 v4_26 s1_26 s2_26 hI24 FI24 FJ25 KFB_I24 m_26
          clear hv2_12_19 hv3_19 e0_19 e1_19 e2_19 e3_19
          obtain ⟨hv2_12_26, hv3_19_26, hv4_26, hs1_26, hs2_26, e0_26, e1_26, e2_26, e3_26, e4_26⟩ := gz_h10 m_26
          have f29 := gz_hi ((show 0 ≤ I24 p 6 ∧ I24 p 6 ≤ 1 from gc_in2 hI24 (gz_sh R_p) rfl rfl rfl))
          have L184 : ∀ (I31 : gr_I) (J32 : gr_J) , gc_Inv ro I31 → (∀ q j : Nat, ((q = p ∧ j = 6) ∨ (q = p ∧ j = 7) ∨ (q = p ∧ j = 8) ∨ (q = p ∧ j = 9) ∨ q = (p + 1) ∨ q = (p + 2) ∨ q = (p + 3) ∨ q = (p + 4) ∨ q = (p + 6) ∨ q = (p + 7)) ∨ I31 q j = I q j) → (∀ q j : Nat, (False) ∨ J32 q j = J q j) → gc_FB p (24 * I a1 11) I31 → ((0 ≤ v2_12 ∧ v2_12 ≤ 63) ∧ (0 ≤ v3_19 ∧ v3_19 ≤ 23) ∧ (v2_12 < I a1 11) ∧ (I31 p 8 = I a1 11) ∧ (I31 a1 11 = I a1 11) ∧ (I p 6 = I p 7 ∨ ¬ I31 p 6 = I31 p 7)) → gv_X (gc_E2 ws0 tb 4 (yX2_build, cX2_build, 7, none) kX2_build) (gv_Q cX2_build none sh (fun r hₚ => (∃ (Iₚ : gr_I) (Jₚ : gr_J), hₚ = gc_h sh Iₚ Jₚ A ∧ gc_Inv ro Iₚ ∧ (∀ q j : Nat, ((q = p ∧ j = 6) ∨ (q = p ∧ j = 7) ∨ (q = p ∧ j = 8) ∨ (q = p ∧ j = 9) ∨ q = (p + 1) ∨ q = (p + 2) ∨ q = (p + 3) ∨ q = (p + 4) ∨ q = (p + 6) ∨ q = (p + 7)) ∨ Iₚ q j = I q j) ∧ (∀ q j : Nat, (False) ∨ Jₚ q j = J q j) ∧ r = none ∧ (gc_FB p (24 * I a1 11) Iₚ) ∧ (Iₚ p 8 = I a1 11) ∧ (I p 6 = I p 7 ∨ ¬ Iₚ p 6 = Iₚ p 7)))) (184, [(0, .inr (.inr (some p))), (1, .inr (.inr (some a1))), (2, .inl v2_12), (3, .inl v3_19)], [], sh, gc_h sh I31 J32 A) := by
            intro I31 J32 hI31 FI31 FJ32 KFB_I31 m_33
            clear hv2_12_26 hv3_19_26 hv4_26 hs1_26 hs2_26 e0_26 e1_26 e2_26 e3_26 e4_26 f29
            obtain ⟨hv2_12_33, hv3_19_33, e0_33, e1_33, e2_33, e3_33⟩ := gz_h6 m_33
            refine gv_run 2 true hD (pcₚ := 66) (lvₚ := [(3, .inl (v3_19 + (-1))), (0, .inr (.inr (some p))), (1, .inr (.inr (some a1))), (2, .inl v2_12)]) (stₚ := []) (hₚ := gc_h sh I31 J32 A) (C := ((True ∧ True) ∧ True)) rfl ⟨⟨trivial, trivial⟩, trivial⟩ ?_
            refine gv_pick [1, 2, 3, 0] rfl ?_
            exact ih66 I31 J32 ((v3_19 + (-1))) (by (/-30-/first | (have o1 := gz_sh e3_33; have o2 := gz_sh hv3_19_33; omega) | (simp only [gz_hd] at *; omega))) hI31 FI31 FJ32 KFB_I31 (by (/-31-/first | (and_intros; (have o1 := gz_sh hv2_12_33; omega); (have o1 := gz_sh hv2_12_33; omega); (have o1 := gz_sh hv3_19_33; omega); (have o1 := gz_sh hv3_19_33; omega); (have o1 := gz_sh e0_33; omega); (have o1 := gz_sh e1_33; omega); (have o1 := gz_sh e2_33; omega); (have o1 := gz_sh e3_33; omega)) | (simp only [gz_hd] at *; omega)))
          refine gv_iast hD rfl S_p_2 ⟨by decide, (gz_sh B_p_2)⟩ ⟨by (/-32-/first | (have o1 := gz_sh hs1_26; omega) | (simp only [gz_hd] at *; omega)), by (/-33-/first | (have o1 := gz_sh hs1_26; omega) | (simp only [gz_hd] at *; omega))⟩ ?_
          refine gc_st hI24 S_p_2 rfl (gz_sh R_p_2) (lo := (-1)) (hi := 24) rfl rfl (by (/-34-/first | (have o1 := gz_sh hs2_26; omega) | (simp only [gz_hd] at *; omega))) (by (/-35-/first | (have o1 := gz_sh hs2_26; omega) | (simp only [gz_hd] at *; omega))) (fun I38 hI38 q39 p39 => ?_)
          have FI38 := gc_frs (W := fun q j => (q = p ∧ j = 6) ∨ (q = p ∧ j = 7) ∨ (q = p ∧ j = 8) ∨ (q = p ∧ j = 9) ∨ q = (p + 1) ∨ q = (p + 2) ∨ q = (p + 3) ∨ q = (p + 4) ∨ q = (p + 6) ∨ q = (p + 7)) FI24 (Or.inr (Or.inr (Or.inr (Or.inr (Or.inr (Or.inl rfl)))))) p39
          have t40 := gz_hi (p39 a1 11 (fun h => absurd h.1 (gz_sh N_a1__p_2)))
          have t41 := gz_hi (p39 p 8 (fun h => absurd h.1 (gz_sh N_p__p_2)))
          have t42 := gz_hi (p39 p 6 (fun h => absurd h.1 (gz_sh N_p__p_2)))
          have t43 := gz_hi (p39 p 7 (fun h => absurd h.1 (gz_sh N_p__p_2)))
          have KFB_I38 := gc_FB_fr KFB_I24 (fun k => p39 (p + 4) k (fun h => absurd h.1 (gz_sh N_p_4__p_2))) (fun k => p39 (p + 3) k (fun h => absurd h.1 (gz_sh N_p_3__p_2)))
          show gv_X _ _ (110, [(0, .inr (.inr (some p))), (1, .inr (.inr (some a1))), (2, .inl v2_12), (3, .inl v3_19), (4, .inl v4_26)], [], sh, gc_h sh I38 J25 A)
          refine gv_run 1 true hD (pcₚ := 111) (lvₚ := [(0, .inr (.inr (some p))), (1, .inr (.inr (some a1))), (2, .inl v2_12), (3, .inl v3_19), (4, .inl v4_26)]) (stₚ := [.inr (.inr (some p))]) (hₚ := gc_h sh I38 J25 A) (C := (True ∧ True)) rfl ⟨trivial, trivial⟩ ?_
          refine gv_get hD rfl rfl S_p ⟨by decide, (gz_sh B_p)⟩ (gc_hA S_p rfl A_p_2) ?_
          show gv_X _ _ (114, [(0, .inr (.inr (some p))), (1, .inr (.inr (some a1))), (2, .inl v2_12), (3, .inl v3_19), (4, .inl v4_26)], [.inr (.inr (some (p + 2)))], sh, gc_h sh I38 J25 A)
          refine gv_run 1 true hD (pcₚ := 116) (lvₚ := [(0, .inr (.inr (some p))), (1, .inr (.inr (some a1))), (2, .inl v2_12), (3, .inl v3_19), (4, .inl v4_26)]) (stₚ := [.inl v4_26, .inr (.inr (some (p + 2)))]) (hₚ := gc_h sh I38 J25 A) (C := (True ∧ True)) rfl ⟨trivial, trivial⟩ ?_
          have f44 := gz_hi ((show (-1) ≤ I38 (p + 2) (Int.toNat v4_26) ∧ I38 (p + 2) (Int.toNat v4_26) ≤ 24 from gc_in2 hI38 (gz_sh R_p_2) rfl rfl rfl))
          refine gv_iald hD rfl S_p_2 rfl ⟨by decide, (gz_sh B_p_2)⟩ ⟨by (/-36-/first | (have o1 := gz_sh hv4_26; omega) | (simp only [gz_hd] at *; omega)), by (/-37-/first | (have o1 := gz_sh hv4_26; omega) | (simp only [gz_hd] at *; omega))⟩ (gc_iI S_p_2 rfl) ?_
          show gv_X _ _ (117, [(0, .inr (.inr (some p))), (1, .inr (.inr (some a1))), (2, .inl v2_12), (3, .inl v3_19), (4, .inl v4_26)], [.inl (I38 (p + 2) (Int.toNat v4_26))], sh, gc_h sh I38 J25 A)
          refine gv_if_le (t := 184) hD rfl rfl ⟨by (/-38-/first | (have o1 := gz_sh f44; omega) | (simp only [gz_hd] at *; omega)), by (/-39-/first | (have o1 := gz_sh f44; omega) | (simp only [gz_hd] at *; omega))⟩ (fun c45 => ?_) (fun c45 => ?_)
          · show gv_X _ _ (184, [(0, .inr (.inr (some p))), (1, .inr (.inr (some a1))), (2, .inl v2_12), (3, .inl v3_19), (4, .inl v4_26)], [], sh, gc_h sh I38 J25 A)
            refine gv_pick [0, 1, 2, 3] rfl ?_
            exact L184 I38 J25 hI38 FI38 FJ25 KFB_I38 (by (/-40-/first | (and_intros; (have o1 := gz_sh hv2_12_26; omega); (have o1 := gz_sh hv2_12_26; omega); (have o1 := gz_sh hv3_19_26; omega); (have o1 := gz_sh hv3_19_26; omega); (have o1 := gz_sh e0_26; omega); (have o1 := gz_sh e1_26; have o2 := gz_sh t41; omega); (have o1 := gz_sh e3_26; have o2 := gz_sh t40; omega); (have o1 := gz_sh e4_26; have o2 := gz_sh t42; have o3 := gz_sh t43; omega)) | (simp only [gz_hd] at *; omega)))
          · show gv_X _ _ (120, [(0, .inr (.inr (some p))), (1, .inr (.inr (some a1))), (2, .inl v2_12), (3, .inl v3_19), (4, .inl v4_26)], [], sh, gc_h sh I38 J25 A)
            refine gv_run 1 true hD (pcₚ := 121) (lvₚ := [(0, .inr (.inr (some p))), (1, .inr (.inr (some a1))), (2, .inl v2_12), (3, .inl v3_19), (4, .inl v4_26)]) (stₚ := [.inr (.inr (some p))]) (hₚ := gc_h sh I38 J25 A) (C := (True ∧ True)) rfl ⟨trivial, trivial⟩ ?_
            obtain ⟨f46_, hq_f46_, S_f46, R_f46, B_f46, D_f46⟩ := gc_sw (p := p) (d := 6) (s := 1) (z := I38 p 6) (show 0 ≤ I38 p 6 ∧ I38 p 6 ≤ 1 from gc_in2 hI38 (gz_sh R_p) rfl rfl rfl) S_p_6 (gz_sh R_p_6) (gz_sh B_p_6) S_p_7 (gz_sh R_p_7) (gz_sh B_p_7)
            refine gv_get hD rfl rfl S_p ⟨by decide, (gz_sh B_p)⟩ (gc_hS (n := 6) S_p rfl hq_f46_) ?_
            show gv_X _ _ (124, [(0, .inr (.inr (some p))), (1, .inr (.inr (some a1))), (2, .inl v2_12), (3, .inl v3_19), (4, .inl v4_26)], [.inr (.inr (some f46_))], sh, gc_h sh I38 J25 A)
            refine gv_run 2 true hD (pcₚ := 126) (lvₚ := [(0, .inr (.inr (some p))), (1, .inr (.inr (some a1))), (2, .inl v2_12), (3, .inl v3_19), (4, .inl v4_26)]) (stₚ := [.inr (.inr (some p)), .inl 0, .inr (.inr (some f46_))]) (hₚ := gc_h sh I38 J25 A) (C := ((True ∧ True) ∧ True)) rfl ⟨⟨trivial, trivial⟩, trivial⟩ ?_
            refine gv_get hD rfl rfl S_p ⟨by decide, (gz_sh B_p)⟩ (gc_hA S_p rfl A_p_1) ?_
            show gv_X _ _ (129, [(0, .inr (.inr (some p))), (1, .inr (.inr (some a1))), (2, .inl v2_12), (3, .inl v3_19), (4, .inl v4_26)], [.inr (.inr (some (p + 1))), .inl 0, .inr (.inr (some f46_))], sh, gc_h sh I38 J25 A)
            refine gv_run 4 true hD (pcₚ := 135) (lvₚ := [(0, .inr (.inr (some p))), (1, .inr (.inr (some a1))), (2, .inl v2_12), (3, .inl v3_19), (4, .inl v4_26)]) (stₚ := [.inr (.inr (some p)), .inl (v4_26 * 24), .inr (.inr (some (p + 1))), .inl 0, .inr (.inr (some f46_))]) (hₚ := gc_h sh I38 J25 A) (C := ((((True ∧ True) ∧ True) ∧ True) ∧ True)) rfl ⟨⟨⟨⟨trivial, trivial⟩, trivial⟩, trivial⟩, trivial⟩ ?_
            refine gv_get hD rfl rfl S_p ⟨by decide, (gz_sh B_p)⟩ (gc_hA S_p rfl A_p_2) ?_
            show gv_X _ _ (138, [(0, .inr (.inr (some p))), (1, .inr (.inr (some a1))), (2, .inl v2_12), (3, .inl v3_19), (4, .inl v4_26)], [.inr (.inr (some (p + 2))), .inl (v4_26 * 24), .inr (.inr (some (p + 1))), .inl 0, .inr (.inr (some f46_))], sh, gc_h sh I38 J25 A)
            refine gv_run 1 true hD (pcₚ := 140) (lvₚ := [(0, .inr (.inr (some p))), (1, .inr (.inr (some a1))), (2, .inl v2_12), (3, .inl v3_19), (4, .inl v4_26)]) (stₚ := [.inl v4_26, .inr (.inr (some (p + 2))), .inl (v4_26 * 24), .inr (.inr (some (p + 1))), .inl 0, .inr (.inr (some f46_))]) (hₚ := gc_h sh I38 J25 A) (C := (True ∧ True)) rfl ⟨trivial, trivial⟩ ?_
            refine gv_iald hD rfl S_p_2 rfl ⟨by decide, (gz_sh B_p_2)⟩ ⟨by (/-41-/first | (have o1 := gz_sh hv4_26; omega) | (simp only [gz_hd] at *; omega)), by (/-42-/first | (have o1 := gz_sh hv4_26; omega) | (simp only [gz_hd] at *; omega))⟩ (gc_iI S_p_2 rfl) ?_
            show gv_X _ _ (141, [(0, .inr (.inr (some p))), (1, .inr (.inr (some a1))), (2, .inl v2_12), (3, .inl v3_19), (4, .inl v4_26)], [.inl (I38 (p + 2) (Int.toNat v4_26)), .inl (v4_26 * 24), .inr (.inr (some (p + 1))), .inl 0, .inr (.inr (some f46_))], sh, gc_h sh I38 J25 A)
            refine gv_copy hD rfl (gc_lC2_71 hws) (Nat.le_of_ble_eq_true rfl) ⟨B_f46, (gz_sh B_p_1)⟩ S_f46 S_p_1 (by decide) ⟨by decide, by decide⟩ ⟨by (/-43-/first | omega | (simp only [gz_hd] at *; omega)), by (/-44-/first | (have o1 := gz_sh hv4_26; omega) | (simp only [gz_hd] at *; omega)), by (/-45-/first | omega | (simp only [gz_hd] at *; omega))⟩ (by (/-46-/first | (have o1 := gz_sh f44; omega) | (simp only [gz_hd] at *; omega))) (by (/-47-/first | (have o1 := gz_sh f44; have o2 := gz_sh hv4_26; omega) | (simp only [gz_hd] at *; omega))) (fun _ k _ => by rw [gc_iI S_f46 rfl]; have h9 := (show (-128) ≤ I38 f46_ (Int.toNat 0 + k) ∧ I38 f46_ (Int.toNat 0 + k) ≤ 127 from gc_in2 hI38 R_f46 rfl rfl rfl); exact ⟨by (/-48-/first | omega | (simp only [gz_hd] at *; omega)), by (/-49-/first | omega | (simp only [gz_hd] at *; omega))⟩) ?_
            refine gc_cp hI38 S_f46 S_p_1 (by decide) (fun j hj => by have h9 := (show (-128) ≤ I38 f46_ (Int.toNat 0 + j) ∧ I38 f46_ (Int.toNat 0 + j) ≤ 127 from gc_in2 hI38 R_f46 rfl rfl rfl); rw [(gz_sh R_p_1)]; exact ⟨by show (-128) ≤ _; (/-50-/first | omega | (simp only [gz_hd] at *; omega)), by show _ ≤ 127; (/-51-/first | omega | (simp only [gz_hd] at *; omega))⟩) (fun I50 hI50 p49 q49 => ?_)
            have FI50 := gc_frp (W := fun q j => (q = p ∧ j = 6) ∨ (q = p ∧ j = 7) ∨ (q = p ∧ j = 8) ∨ (q = p ∧ j = 9) ∨ q = (p + 1) ∨ q = (p + 2) ∨ q = (p + 3) ∨ q = (p + 4) ∨ q = (p + 6) ∨ q = (p + 7)) (V := fun q j => q = (p + 1) ∧ Int.toNat (v4_26 * 24) ≤ j ∧ j < Int.toNat (v4_26 * 24) + Int.toNat ((I38 (p + 2) (Int.toNat v4_26)))) FI38 (fun q j h => (Or.inr (Or.inr (Or.inr (Or.inr (Or.inl h.1)))))) p49
            have KFB_I50 := gc_FB_fr KFB_I38 (fun k => p49 (p + 4) k (fun h => absurd h.1 (gz_sh N_p_4__p_1))) (fun k => p49 (p + 3) k (fun h => absurd h.1 (gz_sh N_p_3__p_1)))
            have t52 := gz_hi (p49 a1 11 (fun h => absurd h.1 (gz_sh N_a1__p_1)))
            have t53 := gz_hi (p49 p 8 (fun h => absurd h.1 (gz_sh N_p__p_1)))
            have t54 := gz_hi (p49 p 6 (fun h => absurd h.1 (gz_sh N_p__p_1)))
            have t55 := gz_hi (p49 p 7 (fun h => absurd h.1 (gz_sh N_p__p_1)))
            have t56 := gz_hi (p49 (p + 2) (Int.toNat v4_26) (fun h => absurd h.1 (gz_sh N_p_2__p_1)))
            show gv_X _ _ (144, [(0, .inr (.inr (some p))), (1, .inr (.inr (some a1))), (2, .inl v2_12), (3, .inl v3_19), (4, .inl v4_26)], [], sh, gc_h sh I50 J25 A)
            refine gv_run 1 true hD (pcₚ := 145) (lvₚ := [(0, .inr (.inr (some p))), (1, .inr (.inr (some a1))), (2, .inl v2_12), (3, .inl v3_19), (4, .inl v4_26)]) (stₚ := [.inr (.inr (some p))]) (hₚ := gc_h sh I50 J25 A) (C := (True ∧ True)) rfl ⟨trivial, trivial⟩ ?_
            obtain ⟨f61_, hq_f61_, S_f61, R_f61, B_f61, D_f61⟩ := gc_sw (p := p) (d := 6) (s := 1) (z := I50 p 6) (show 0 ≤ I50 p 6 ∧ I50 p 6 ≤ 1 from gc_in2 hI50 (gz_sh R_p) rfl rfl rfl) S_p_6 (gz_sh R_p_6) (gz_sh B_p_6) S_p_7 (gz_sh R_p_7) (gz_sh B_p_7)
            refine gv_get hD rfl rfl S_p ⟨by decide, (gz_sh B_p)⟩ (gc_hS (n := 6) S_p rfl hq_f61_) ?_
            show gv_X _ _ (148, [(0, .inr (.inr (some p))), (1, .inr (.inr (some a1))), (2, .inl v2_12), (3, .inl v3_19), (4, .inl v4_26)], [.inr (.inr (some f61_))], sh, gc_h sh I50 J25 A)
            refine gv_run 2 true hD (pcₚ := 150) (lvₚ := [(0, .inr (.inr (some p))), (1, .inr (.inr (some a1))), (2, .inl v2_12), (3, .inl v3_19), (4, .inl v4_26)]) (stₚ := [.inr (.inr (some p)), .inl 0, .inr (.inr (some f61_))]) (hₚ := gc_h sh I50 J25 A) (C := ((True ∧ True) ∧ True)) rfl ⟨⟨trivial, trivial⟩, trivial⟩ ?_
            refine gv_get hD rfl rfl S_p ⟨by decide, (gz_sh B_p)⟩ (gc_hA S_p rfl A_p_2) ?_
            show gv_X _ _ (153, [(0, .inr (.inr (some p))), (1, .inr (.inr (some a1))), (2, .inl v2_12), (3, .inl v3_19), (4, .inl v4_26)], [.inr (.inr (some (p + 2))), .inl 0, .inr (.inr (some f61_))], sh, gc_h sh I50 J25 A)
            refine gv_run 1 true hD (pcₚ := 155) (lvₚ := [(0, .inr (.inr (some p))), (1, .inr (.inr (some a1))), (2, .inl v2_12), (3, .inl v3_19), (4, .inl v4_26)]) (stₚ := [.inl v4_26, .inr (.inr (some (p + 2))), .inl 0, .inr (.inr (some f61_))]) (hₚ := gc_h sh I50 J25 A) (C := (True ∧ True)) rfl ⟨trivial, trivial⟩ ?_
            refine gv_iald hD rfl S_p_2 rfl ⟨by decide, (gz_sh B_p_2)⟩ ⟨by (/-52-/first | (have o1 := gz_sh hv4_26; omega) | (simp only [gz_hd] at *; omega)), by (/-53-/first | (have o1 := gz_sh hv4_26; omega) | (simp only [gz_hd] at *; omega))⟩ (gc_iI S_p_2 rfl) ?_
            show gv_X _ _ (156, [(0, .inr (.inr (some p))), (1, .inr (.inr (some a1))), (2, .inl v2_12), (3, .inl v3_19), (4, .inl v4_26)], [.inl (I50 (p + 2) (Int.toNat v4_26)), .inl 0, .inr (.inr (some f61_))], sh, gc_h sh I50 J25 A)
            obtain ⟨r64, h64, E64, P64⟩ := d_X2_hash (ws0 := ws0) (tb := tb) hws htb sh ro I50 J25 A hI50  24 f61_ 0 ((I50 (p + 2) (Int.toNat v4_26)))  S_f61 R_f61 B_f61 (by decide)  ⟨by (/-54-/first | omega | (simp only [gz_hd] at *; omega)), by (/-55-/first | omega | (simp only [gz_hd] at *; omega))⟩ ⟨by (/-56-/first | (have o1 := gz_sh t56; omega) | (simp only [gz_hd] at *; omega)), by (/-57-/first | (have o1 := gz_sh f44; have o2 := gz_sh t56; omega) | (simp only [gz_hd] at *; omega))⟩ (by (/-58-/first | (have o1 := gz_sh f44; have o2 := gz_sh t56; omega) | (simp only [gz_hd] at *; omega))) 
            obtain ⟨rfl, ⟨z64, rfl, q64⟩⟩ := P64
            replace q64 := gz_hi q64
            refine gv_callS hD rfl (As := [.inr (.inr (some f61_)), .inl 0, .inl (I50 (p + 2) (Int.toNat v4_26))]) (st := []) rfl (gc_lS2 hws rfl) (Nat.le_of_ble_eq_true rfl) (gz_Ev_mono (d := 1) (by decide) E64) ?_
            show gv_X _ _ (159, [(0, .inr (.inr (some p))), (1, .inr (.inr (some a1))), (2, .inl v2_12), (3, .inl v3_19), (4, .inl v4_26)], [.inl z64], sh, gc_h sh I50 J25 A)
            refine gv_run 2 true hD (pcₚ := 162) (lvₚ := [(6, .inl z64), (0, .inr (.inr (some p))), (1, .inr (.inr (some a1))), (2, .inl v2_12), (3, .inl v3_19), (4, .inl v4_26)]) (stₚ := [.inr (.inr (some p))]) (hₚ := gc_h sh I50 J25 A) (C := ((True ∧ True) ∧ True)) rfl ⟨⟨trivial, trivial⟩, trivial⟩ ?_
            refine gv_get hD rfl rfl S_p ⟨by decide, (gz_sh B_p)⟩ (gc_hA S_p rfl A_p_3) ?_
            show gv_X _ _ (165, [(6, .inl z64), (0, .inr (.inr (some p))), (1, .inr (.inr (some a1))), (2, .inl v2_12), (3, .inl v3_19), (4, .inl v4_26)], [.inr (.inr (some (p + 3)))], sh, gc_h sh I50 J25 A)
            refine gv_run 2 true hD (pcₚ := 168) (lvₚ := [(6, .inl z64), (0, .inr (.inr (some p))), (1, .inr (.inr (some a1))), (2, .inl v2_12), (3, .inl v3_19), (4, .inl v4_26)]) (stₚ := [.inr (.inr (some p)), .inl v4_26, .inr (.inr (some (p + 3)))]) (hₚ := gc_h sh I50 J25 A) (C := ((True ∧ True) ∧ True)) rfl ⟨⟨trivial, trivial⟩, trivial⟩ ?_
            refine gv_get hD rfl rfl S_p ⟨by decide, (gz_sh B_p)⟩ (gc_hA S_p rfl A_p_4) ?_
            show gv_X _ _ (171, [(6, .inl z64), (0, .inr (.inr (some p))), (1, .inr (.inr (some a1))), (2, .inl v2_12), (3, .inl v3_19), (4, .inl v4_26)], [.inr (.inr (some (p + 4))), .inl v4_26, .inr (.inr (some (p + 3)))], sh, gc_h sh I50 J25 A)
            refine gv_run 1 true hD (pcₚ := 173) (lvₚ := [(6, .inl z64), (0, .inr (.inr (some p))), (1, .inr (.inr (some a1))), (2, .inl v2_12), (3, .inl v3_19), (4, .inl v4_26)]) (stₚ := [.inl z64, .inr (.inr (some (p + 4))), .inl v4_26, .inr (.inr (some (p + 3)))]) (hₚ := gc_h sh I50 J25 A) (C := (True ∧ True)) rfl ⟨trivial, trivial⟩ ?_
            have f65 := gz_hi ((show (-1) ≤ I50 (p + 4) (Int.toNat z64) ∧ I50 (p + 4) (Int.toNat z64) ≤ 1535 from gc_in2 hI50 (gz_sh R_p_4) rfl rfl rfl))
            refine gv_iald hD rfl S_p_4 rfl ⟨by decide, (gz_sh B_p_4)⟩ ⟨by (/-59-/first | (have o1 := gz_sh q64; omega) | (simp only [gz_hd] at *; omega)), by (/-60-/first | (have o1 := gz_sh q64; omega) | (simp only [gz_hd] at *; omega))⟩ (gc_iI S_p_4 rfl) ?_
            show gv_X _ _ (174, [(6, .inl z64), (0, .inr (.inr (some p))), (1, .inr (.inr (some a1))), (2, .inl v2_12), (3, .inl v3_19), (4, .inl v4_26)], [.inl (I50 (p + 4) (Int.toNat z64)), .inl v4_26, .inr (.inr (some (p + 3)))], sh, gc_h sh I50 J25 A)
            have t66 := gz_hi ((KFB_I50).1 (Int.toNat z64) (by (/-61-/first | (have o1 := gz_sh q64; omega) | (simp only [gz_hd] at *; omega))))
            refine gv_iast hD rfl S_p_3 ⟨by decide, (gz_sh B_p_3)⟩ ⟨by (/-62-/first | (have o1 := gz_sh hv4_26; omega) | (simp only [gz_hd] at *; omega)), by (/-63-/first | (have o1 := gz_sh hv4_26; omega) | (simp only [gz_hd] at *; omega))⟩ ?_
            refine gc_st hI50 S_p_3 rfl (gz_sh R_p_3) (lo := (-1)) (hi := 1535) rfl rfl (by (/-64-/first | (have o1 := gz_sh f65; omega) | (simp only [gz_hd] at *; omega))) (by (/-65-/first | (have o1 := gz_sh f65; omega) | (simp only [gz_hd] at *; omega))) (fun I67 hI67 q68 p68 => ?_)
            have FI67 := gc_frs (W := fun q j => (q = p ∧ j = 6) ∨ (q = p ∧ j = 7) ∨ (q = p ∧ j = 8) ∨ (q = p ∧ j = 9) ∨ q = (p + 1) ∨ q = (p + 2) ∨ q = (p + 3) ∨ q = (p + 4) ∨ q = (p + 6) ∨ q = (p + 7)) FI50 (Or.inr (Or.inr (Or.inr (Or.inr (Or.inr (Or.inr (Or.inl rfl))))))) p68
            have t69 := gz_hi (p68 a1 11 (fun h => absurd h.1 (gz_sh N_a1__p_3)))
            have t70 := gz_hi (p68 p 8 (fun h => absurd h.1 (gz_sh N_p__p_3)))
            have t71 := gz_hi (p68 p 6 (fun h => absurd h.1 (gz_sh N_p__p_3)))
            have t72 := gz_hi (p68 p 7 (fun h => absurd h.1 (gz_sh N_p__p_3)))
            have KFB_I67 : gc_FB p (24 * I a1 11) I67 := gc_FB_c KFB_I50 p68 (by (/-66-/first | (have o1 := gz_sh t66; omega) | (simp only [gz_hd] at *; omega)))
            show gv_X _ _ (175, [(6, .inl z64), (0, .inr (.inr (some p))), (1, .inr (.inr (some a1))), (2, .inl v2_12), (3, .inl v3_19), (4, .inl v4_26)], [], sh, gc_h sh I67 J25 A)
            refine gv_run 1 true hD (pcₚ := 176) (lvₚ := [(6, .inl z64), (0, .inr (.inr (some p))), (1, .inr (.inr (some a1))), (2, .inl v2_12), (3, .inl v3_19), (4, .inl v4_26)]) (stₚ := [.inr (.inr (some p))]) (hₚ := gc_h sh I67 J25 A) (C := (True ∧ True)) rfl ⟨trivial, trivial⟩ ?_
            refine gv_get hD rfl rfl S_p ⟨by decide, (gz_sh B_p)⟩ (gc_hA S_p rfl A_p_4) ?_
            show gv_X _ _ (179, [(6, .inl z64), (0, .inr (.inr (some p))), (1, .inr (.inr (some a1))), (2, .inl v2_12), (3, .inl v3_19), (4, .inl v4_26)], [.inr (.inr (some (p + 4)))], sh, gc_h sh I67 J25 A)
            refine gv_run 2 true hD (pcₚ := 183) (lvₚ := [(6, .inl z64), (0, .inr (.inr (some p))), (1, .inr (.inr (some a1))), (2, .inl v2_12), (3, .inl v3_19), (4, .inl v4_26)]) (stₚ := [.inl v4_26, .inl z64, .inr (.inr (some (p + 4)))]) (hₚ := gc_h sh I67 J25 A) (C := ((True ∧ True) ∧ True)) rfl ⟨⟨trivial, trivial⟩, trivial⟩ ?_
            refine gv_iast hD rfl S_p_4 ⟨by decide, (gz_sh B_p_4)⟩ ⟨by (/-67-/first | (have o1 := gz_sh q64; omega) | (simp only [gz_hd] at *; omega)), by (/-68-/first | (have o1 := gz_sh q64; omega) | (simp only [gz_hd] at *; omega))⟩ ?_
            refine gc_st hI67 S_p_4 rfl (gz_sh R_p_4) (lo := (-1)) (hi := 1535) rfl rfl (by (/-69-/first | (have o1 := gz_sh hv4_26; omega) | (simp only [gz_hd] at *; omega))) (by (/-70-/first | (have o1 := gz_sh hv4_26; omega) | (simp only [gz_hd] at *; omega))) (fun I74 hI74 q75 p75 => ?_)
            have FI74 := gc_frs (W := fun q j => (q = p ∧ j = 6) ∨ (q = p ∧ j = 7) ∨ (q = p ∧ j = 8) ∨ (q = p ∧ j = 9) ∨ q = (p + 1) ∨ q = (p + 2) ∨ q = (p + 3) ∨ q = (p + 4) ∨ q = (p + 6) ∨ q = (p + 7)) FI67 (Or.inr (Or.inr (Or.inr (Or.inr (Or.inr (Or.inr (Or.inr (Or.inl rfl)))))))) p75
            have t76 := gz_hi (p75 a1 11 (fun h => absurd h.1 (gz_sh N_a1__p_4)))
            have t77 := gz_hi (p75 p 8 (fun h => absurd h.1 (gz_sh N_p__p_4)))
            have t78 := gz_hi (p75 p 6 (fun h => absurd h.1 (gz_sh N_p__p_4)))
            have t79 := gz_hi (p75 p 7 (fun h => absurd h.1 (gz_sh N_p__p_4)))
            have KFB_I74 : gc_FB p (24 * I a1 11) I74 := gc_FB_h KFB_I67 p75 (by (/-71-/first | (have o1 := gz_sh e0_26; have o2 := gz_sh e2_26; have o3 := gz_sh hv3_19_26; omega) | (simp only [gz_hd] at *; omega)))
            show gv_X _ _ (184, [(6, .inl z64), (0, .inr (.inr (some p))), (1, .inr (.inr (some a1))), (2, .inl v2_12), (3, .inl v3_19), (4, .inl v4_26)], [], sh, gc_h sh I74 J25 A)
            refine gv_pick [1, 2, 3, 4] rfl ?_
            exact L184 I74 J25 hI74 FI74 FJ25 KFB_I74 (by (/-72-/first | (and_intros; (have o1 := gz_sh hv2_12_26; omega); (have o1 := gz_sh hv2_12_26; omega); (have o1 := gz_sh hv3_19_26; omega); (have o1 := gz_sh hv3_19_26; omega); (have o1 := gz_sh e0_26; omega); (have o1 := gz_sh e1_26; have o2 := gz_sh t41; have o3 := gz_sh t53; have o4 := gz_sh t70; have o5 := gz_sh t77; omega); (have o1 := gz_sh e3_26; have o2 := gz_sh t40; have o3 := gz_sh t52; have o4 := gz_sh t69; have o5 := gz_sh t76; omega); (have o1 := gz_sh e4_26; have o2 := gz_sh t42; have o3 := gz_sh t43; have o4 := gz_sh t54; have o5 := gz_sh t55; have o6 := gz_sh t71; have o7 := gz_sh t72; have o8 := gz_sh t78; have o9 := gz_sh t79; omega)) | (simp only [gz_hd] at *; omega)))
        refine gv_run 1 true hD (pcₚ := 67) (lvₚ := [(0, .inr (.inr (some p))), (1, .inr (.inr (some a1))), (2, .inl v2_12), (3, .inl v3_19)]) (stₚ := [.inl v3_19]) (hₚ := gc_h sh I17 J18 A) (C := (True ∧ True)) rfl ⟨trivial, trivial⟩ ?_
        refine gv_if_lt (t := 190) hD rfl rfl ⟨by (/-73-/first | (have o1 := gz_sh hv3_19; omega) | (simp only [gz_hd] at *; omega)), by (/-74-/first | (have o1 := gz_sh hv3_19; omega) | (simp only [gz_hd] at *; omega))⟩ (fun c81 => ?_) (fun c81 => ?_)
        · show gv_X _ _ (190, [(0, .inr (.inr (some p))), (1, .inr (.inr (some a1))), (2, .inl v2_12), (3, .inl v3_19)], [], sh, gc_h sh I17 J18 A)
          refine gv_run 2 true hD (pcₚ := 54) (lvₚ := [(2, .inl (v2_12 + (-1))), (0, .inr (.inr (some p))), (1, .inr (.inr (some a1))), (3, .inl v3_19)]) (stₚ := []) (hₚ := gc_h sh I17 J18 A) (C := ((True ∧ True) ∧ True)) rfl ⟨⟨trivial, trivial⟩, trivial⟩ ?_
          refine gv_pick [1, 2, 0] rfl ?_
          exact ih54 I17 J18 ((v2_12 + (-1))) (by (/-75-/first | (have o1 := gz_sh e3_19; have o2 := gz_sh hv2_12_19; have o3 := gz_sh hv3_19; omega) | (simp only [gz_hd] at *; omega))) hI17 FI17 FJ18 KFB_I17 (by (/-76-/first | (and_intros; (have o1 := gz_sh hv2_12_19; omega); (have o1 := gz_sh hv2_12_19; omega); (have o1 := gz_sh e0_19; omega); (have o1 := gz_sh e1_19; omega); (have o1 := gz_sh e2_19; omega); (have o1 := gz_sh e3_19; omega)) | (simp only [gz_hd] at *; omega)))
        · show gv_X _ _ (70, [(0, .inr (.inr (some p))), (1, .inr (.inr (some a1))), (2, .inl v2_12), (3, .inl v3_19)], [], sh, gc_h sh I17 J18 A)
          refine gv_run 7 true hD (pcₚ := 79) (lvₚ := [(4, .inl ((v2_12 * 24) + v3_19)), (0, .inr (.inr (some p))), (1, .inr (.inr (some a1))), (2, .inl v2_12), (3, .inl v3_19)]) (stₚ := [.inr (.inr (some p))]) (hₚ := gc_h sh I17 J18 A) (C := (((((((True ∧ True) ∧ True) ∧ True) ∧ True) ∧ True) ∧ True) ∧ True)) rfl ⟨⟨⟨⟨⟨⟨⟨trivial, trivial⟩, trivial⟩, trivial⟩, trivial⟩, trivial⟩, trivial⟩, trivial⟩ ?_
          refine gv_run 3 true hD (pcₚ := 82) (lvₚ := [(4, .inl ((v2_12 * 24) + v3_19)), (0, .inr (.inr (some p))), (1, .inr (.inr (some a1))), (2, .inl v2_12), (3, .inl v3_19)]) (stₚ := [.inl v3_19, .inl v2_12, .inr (.inr (some a1)), .inr (.inr (some p))]) (hₚ := gc_h sh I17 J18 A) (C := (((True ∧ True) ∧ True) ∧ True)) rfl ⟨⟨⟨trivial, trivial⟩, trivial⟩, trivial⟩ ?_
          obtain ⟨r82, h82, E82, P82⟩ := d_X2_join (ws0 := ws0) (tb := tb) hws htb sh ro I17 J18 A hI17 p a1 v2_12 v3_19 hp h_a1 G_a1  ⟨by (/-77-/first | (have o1 := gz_sh hv2_12_19; omega) | (simp only [gz_hd] at *; omega)), by (/-78-/first | (have o1 := gz_sh hv2_12_19; omega) | (simp only [gz_hd] at *; omega))⟩ ⟨by (/-79-/first | omega | (simp only [gz_hd] at *; omega)), by (/-80-/first | (have o1 := gz_sh hv3_19; omega) | (simp only [gz_hd] at *; omega))⟩ (by (/-81-/first | omega | (simp only [gz_hd] at *; omega))) 
          obtain ⟨I83, J84, rfl, hI83, g82, k82, ⟨z82, rfl, q82⟩⟩ := P82
          replace q82 := gz_hi q82
          have FI83 := gc_frc (W := fun q j => (q = p ∧ j = 6) ∨ (q = p ∧ j = 7) ∨ (q = p ∧ j = 8) ∨ (q = p ∧ j = 9) ∨ q = (p + 1) ∨ q = (p + 2) ∨ q = (p + 3) ∨ q = (p + 4) ∨ q = (p + 6) ∨ q = (p + 7)) (V := fun q j => q = (p + 6) ∨ q = (p + 7)) FI17 (fun q j h => (h.elim (fun h => (Or.inr (Or.inr (Or.inr (Or.inr (Or.inr (Or.inr (Or.inr (Or.inr (Or.inl h)))))))))) (fun h => (Or.inr (Or.inr (Or.inr (Or.inr (Or.inr (Or.inr (Or.inr (Or.inr (Or.inr h)))))))))))) g82
          have t85 := gz_hi ((g82 a1 11).resolve_left (fun h => h.elim (fun h => absurd h (gz_sh N_a1__p_6)) (fun h => absurd h (gz_sh N_a1__p_7))))
          have t86 := gz_hi ((g82 p 8).resolve_left (fun h => h.elim (fun h => absurd h (gz_sh N_p__p_6)) (fun h => absurd h (gz_sh N_p__p_7))))
          have t87 := gz_hi ((g82 p 6).resolve_left (fun h => h.elim (fun h => absurd h (gz_sh N_p__p_6)) (fun h => absurd h (gz_sh N_p__p_7))))
          have t88 := gz_hi ((g82 p 7).resolve_left (fun h => h.elim (fun h => absurd h (gz_sh N_p__p_6)) (fun h => absurd h (gz_sh N_p__p_7))))
          obtain rfl : J18 = J84 := funext fun q => funext fun j => ((k82 q j).resolve_left id).symm
          have KFB_I83 := gc_FB_fr KFB_I17 (fun k => (g82 (p + 4) k).resolve_left (fun h => h.elim (fun h => absurd h (gz_sh N_p_4__p_6)) (fun h => absurd h (gz_sh N_p_4__p_7)))) (fun k => (g82 (p + 3) k).resolve_left (fun h => h.elim (fun h => absurd h (gz_sh N_p_3__p_6)) (fun h => absurd h (gz_sh N_p_3__p_7))))
          refine gv_callV hD rfl (As := [.inr (.inr (some a1)), .inl v2_12, .inl v3_19]) (st := []) rfl (gz_sh B_p) S_p rfl (gc_lV2 hws rfl) (Nat.le_of_ble_eq_true rfl) (gz_Ev_mono (d := 2) (by decide) E82) ?_
          show gv_X _ _ (85, [(4, .inl ((v2_12 * 24) + v3_19)), (0, .inr (.inr (some p))), (1, .inr (.inr (some a1))), (2, .inl v2_12), (3, .inl v3_19)], [.inl z82], sh, gc_h sh I83 J18 A)
          refine gv_run 2 true hD (pcₚ := 88) (lvₚ := [(5, .inl z82), (4, .inl ((v2_12 * 24) + v3_19)), (0, .inr (.inr (some p))), (1, .inr (.inr (some a1))), (2, .inl v2_12), (3, .inl v3_19)]) (stₚ := [.inr (.inr (some p))]) (hₚ := gc_h sh I83 J18 A) (C := ((True ∧ True) ∧ True)) rfl ⟨⟨trivial, trivial⟩, trivial⟩ ?_
          refine gv_get hD rfl rfl S_p ⟨by decide, (gz_sh B_p)⟩ (gc_hA S_p rfl A_p_2) ?_
          show gv_X _ _ (91, [(5, .inl z82), (4, .inl ((v2_12 * 24) + v3_19)), (0, .inr (.inr (some p))), (1, .inr (.inr (some a1))), (2, .inl v2_12), (3, .inl v3_19)], [.inr (.inr (some (p + 2)))], sh, gc_h sh I83 J18 A)
          refine gv_run 2 true hD (pcₚ := 95) (lvₚ := [(5, .inl z82), (4, .inl ((v2_12 * 24) + v3_19)), (0, .inr (.inr (some p))), (1, .inr (.inr (some a1))), (2, .inl v2_12), (3, .inl v3_19)]) (stₚ := [.inl z82, .inl ((v2_12 * 24) + v3_19), .inr (.inr (some (p + 2)))]) (hₚ := gc_h sh I83 J18 A) (C := ((True ∧ True) ∧ True)) rfl ⟨⟨trivial, trivial⟩, trivial⟩ ?_
          refine gv_if_le (t := 108) hD rfl rfl ⟨by (/-82-/first | (have o1 := gz_sh q82; omega) | (simp only [gz_hd] at *; omega)), by (/-83-/first | (have o1 := gz_sh q82; omega) | (simp only [gz_hd] at *; omega))⟩ (fun c90 => ?_) (fun c90 => ?_)
          · show gv_X _ _ (108, [(5, .inl z82), (4, .inl ((v2_12 * 24) + v3_19)), (0, .inr (.inr (some p))), (1, .inr (.inr (some a1))), (2, .inl v2_12), (3, .inl v3_19)], [.inl ((v2_12 * 24) + v3_19), .inr (.inr (some (p + 2)))], sh, gc_h sh I83 J18 A)
            refine gv_run 1 true hD (pcₚ := 109) (lvₚ := [(5, .inl z82), (4, .inl ((v2_12 * 24) + v3_19)), (0, .inr (.inr (some p))), (1, .inr (.inr (some a1))), (2, .inl v2_12), (3, .inl v3_19)]) (stₚ := [.inl (-1), .inl ((v2_12 * 24) + v3_19), .inr (.inr (some (p + 2)))]) (hₚ := gc_h sh I83 J18 A) (C := (True ∧ True)) rfl ⟨trivial, trivial⟩ ?_
            refine gv_pick [2, 3, 4, 5, 1] rfl ?_
            exact L109 I83 J18 (((v2_12 * 24) + v3_19)) (((v2_12 * 24) + v3_19)) (-1) hI83 FI83 FJ18 KFB_I83 (by (/-84-/first | (and_intros; (have o1 := gz_sh hv2_12_19; omega); (have o1 := gz_sh hv2_12_19; omega); (omega); (have o1 := gz_sh hv3_19; omega); (have o1 := gz_sh hv2_12_19; omega); (have o1 := gz_sh hv2_12_19; have o2 := gz_sh hv3_19; omega); (have o1 := gz_sh hv2_12_19; omega); (have o1 := gz_sh hv2_12_19; have o2 := gz_sh hv3_19; omega); (omega); (omega); (have o1 := gz_sh e0_19; omega); (have o1 := gz_sh e1_19; have o2 := gz_sh t86; omega); (omega); (have o1 := gz_sh e2_19; have o2 := gz_sh t85; omega); (have o1 := gz_sh e3_19; have o2 := gz_sh t87; have o3 := gz_sh t88; omega)) | (simp only [gz_hd] at *; omega)))
          · show gv_X _ _ (98, [(5, .inl z82), (4, .inl ((v2_12 * 24) + v3_19)), (0, .inr (.inr (some p))), (1, .inr (.inr (some a1))), (2, .inl v2_12), (3, .inl v3_19)], [.inl ((v2_12 * 24) + v3_19), .inr (.inr (some (p + 2)))], sh, gc_h sh I83 J18 A)
            refine gv_run 3 true hD (pcₚ := 102) (lvₚ := [(5, .inl z82), (4, .inl ((v2_12 * 24) + v3_19)), (0, .inr (.inr (some p))), (1, .inr (.inr (some a1))), (2, .inl v2_12), (3, .inl v3_19)]) (stₚ := [.inl z82, .inr (.inr (some a1)), .inr (.inr (some p)), .inl ((v2_12 * 24) + v3_19), .inr (.inr (some (p + 2)))]) (hₚ := gc_h sh I83 J18 A) (C := (((True ∧ True) ∧ True) ∧ True)) rfl ⟨⟨⟨trivial, trivial⟩, trivial⟩, trivial⟩ ?_
            obtain ⟨r91, h91, E91, P91⟩ := d_X2_soundAll (ws0 := ws0) (tb := tb) hws htb sh ro I83 J18 A hI83 p a1 z82 hp h_a1 G_a1  ⟨by (/-85-/first | omega | (simp only [gz_hd] at *; omega)), by (/-86-/first | (have o1 := gz_sh q82; omega) | (simp only [gz_hd] at *; omega))⟩ (gc_sc_fr x0 (fun k => (FI83 (a1 + 10) k).resolve_left (by (/-87-/first | omega | (simp only [gz_hd] at *; omega))))) (by (/-88-/first | omega | (simp only [gz_hd] at *; omega))) 
            obtain ⟨I92, J93, rfl, hI92, g91, k91, ⟨z91, rfl, q91⟩⟩ := P91
            replace q91 := gz_hi q91
            have FI92 := gc_frc (W := fun q j => (q = p ∧ j = 6) ∨ (q = p ∧ j = 7) ∨ (q = p ∧ j = 8) ∨ (q = p ∧ j = 9) ∨ q = (p + 1) ∨ q = (p + 2) ∨ q = (p + 3) ∨ q = (p + 4) ∨ q = (p + 6) ∨ q = (p + 7)) (V := fun q j => (q = p ∧ j = 6) ∨ (q = p ∧ j = 7) ∨ q = (p + 6) ∨ q = (p + 7)) FI83 (fun q j h => (h.elim (fun h => (Or.inl h)) (fun h => (h.elim (fun h => (Or.inr (Or.inl h))) (fun h => (h.elim (fun h => (Or.inr (Or.inr (Or.inr (Or.inr (Or.inr (Or.inr (Or.inr (Or.inr (Or.inl h)))))))))) (fun h => (Or.inr (Or.inr (Or.inr (Or.inr (Or.inr (Or.inr (Or.inr (Or.inr (Or.inr h)))))))))))))))) g91
            have t94 := gz_hi ((g91 a1 11).resolve_left (fun h => h.elim (fun h => absurd h.2 (by first | exact gz_ne rfl | decide)) (fun h => h.elim (fun h => absurd h.2 (by first | exact gz_ne rfl | decide)) (fun h => h.elim (fun h => absurd h (gz_sh N_a1__p_6)) (fun h => absurd h (gz_sh N_a1__p_7))))))
            have t95 := gz_hi ((g91 p 8).resolve_left (fun h => h.elim (fun h => absurd h.2 (by first | exact gz_ne rfl | decide)) (fun h => h.elim (fun h => absurd h.2 (by first | exact gz_ne rfl | decide)) (fun h => h.elim (fun h => absurd h (gz_sh N_p__p_6)) (fun h => absurd h (gz_sh N_p__p_7))))))
            obtain rfl : J18 = J93 := funext fun q => funext fun j => ((k91 q j).resolve_left id).symm
            have KFB_I92 := gc_FB_fr KFB_I83 (fun k => (g91 (p + 4) k).resolve_left (fun h => h.elim (fun h => absurd h.1 (gz_sh N_p_4__p)) (fun h => h.elim (fun h => absurd h.1 (gz_sh N_p_4__p)) (fun h => h.elim (fun h => absurd h (gz_sh N_p_4__p_6)) (fun h => absurd h (gz_sh N_p_4__p_7)))))) (fun k => (g91 (p + 3) k).resolve_left (fun h => h.elim (fun h => absurd h.1 (gz_sh N_p_3__p)) (fun h => h.elim (fun h => absurd h.1 (gz_sh N_p_3__p)) (fun h => h.elim (fun h => absurd h (gz_sh N_p_3__p_6)) (fun h => absurd h (gz_sh N_p_3__p_7))))))
            refine gv_callV hD rfl (As := [.inr (.inr (some a1)), .inl z82]) (st := [.inl ((v2_12 * 24) + v3_19), .inr (.inr (some (p + 2)))]) rfl (gz_sh B_p) S_p rfl (gc_lV2 hws rfl) (Nat.le_of_ble_eq_true rfl) (gz_Ev_mono (d := 4) (by decide) E91) ?_
            show gv_X _ _ (105, [(5, .inl z82), (4, .inl ((v2_12 * 24) + v3_19)), (0, .inr (.inr (some p))), (1, .inr (.inr (some a1))), (2, .inl v2_12), (3, .inl v3_19)], [.inl z91, .inl ((v2_12 * 24) + v3_19), .inr (.inr (some (p + 2)))], sh, gc_h sh I92 J18 A)
            refine gv_run 1 true hD (pcₚ := 109) (lvₚ := [(5, .inl z82), (4, .inl ((v2_12 * 24) + v3_19)), (0, .inr (.inr (some p))), (1, .inr (.inr (some a1))), (2, .inl v2_12), (3, .inl v3_19)]) (stₚ := [.inl z91, .inl ((v2_12 * 24) + v3_19), .inr (.inr (some (p + 2)))]) (hₚ := gc_h sh I92 J18 A) (C := (True ∧ True)) rfl ⟨trivial, trivial⟩ ?_
            refine gv_pick [2, 3, 4, 5, 1] rfl ?_
            exact L109 I92 J18 (((v2_12 * 24) + v3_19)) (((v2_12 * 24) + v3_19)) z91 hI92 FI92 FJ18 KFB_I92 (by (/-89-/first | (and_intros; (have o1 := gz_sh hv2_12_19; omega); (have o1 := gz_sh hv2_12_19; omega); (omega); (have o1 := gz_sh hv3_19; omega); (have o1 := gz_sh hv2_12_19; omega); (have o1 := gz_sh hv2_12_19; have o2 := gz_sh hv3_19; omega); (have o1 := gz_sh hv2_12_19; omega); (have o1 := gz_sh hv2_12_19; have o2 := gz_sh hv3_19; omega); (have o1 := gz_sh q91; omega); (have o1 := gz_sh q91; omega); (have o1 := gz_sh e0_19; omega); (have o1 := gz_sh e1_19; have o2 := gz_sh t86; have o3 := gz_sh t95; omega); (omega); (have o1 := gz_sh e2_19; have o2 := gz_sh t85; have o3 := gz_sh t94; omega); (have o1 := gz_sh e0_19; have o2 := gz_sh e1_19; have o3 := gz_sh e2_19; have o4 := gz_sh e3_19; have o5 := gz_sh hv2_12_19; have o6 := gz_sh hv3_19; have o7 := gz_sh q91; have o8 := gz_sh t85; have o9 := gz_sh t86; have o10 := gz_sh t87; have o11 := gz_sh t88; have o12 := gz_sh t94; have o13 := gz_sh t95; omega)) | (simp only [gz_hd] at *; omega)))
    refine gv_run 1 true hD (pcₚ := 55) (lvₚ := [(0, .inr (.inr (some p))), (1, .inr (.inr (some a1))), (2, .inl v2_12)]) (stₚ := [.inl v2_12]) (hₚ := gc_h sh I10 J11 A) (C := (True ∧ True)) rfl ⟨trivial, trivial⟩ ?_
    refine gv_if_lt (t := 196) hD rfl rfl ⟨by (/-90-/first | (have o1 := gz_sh hv2_12; omega) | (simp only [gz_hd] at *; omega)), by (/-91-/first | (have o1 := gz_sh hv2_12; omega) | (simp only [gz_hd] at *; omega))⟩ (fun c99 => ?_) (fun c99 => ?_)
    · show gv_X _ _ (196, [(0, .inr (.inr (some p))), (1, .inr (.inr (some a1))), (2, .inl v2_12)], [], sh, gc_h sh I10 J11 A)
      exact gv_vret hD rfl ⟨I10, J11, rfl, hI10, FI10, FJ11, ⟨rfl, KFB_I10, by (/-92-/first | (have o1 := gz_sh e1_12; omega) | (simp only [gz_hd] at *; omega)), by (/-93-/first | (have o1 := gz_sh e3_12; omega) | (simp only [gz_hd] at *; omega))⟩⟩
    · show gv_X _ _ (58, [(0, .inr (.inr (some p))), (1, .inr (.inr (some a1))), (2, .inl v2_12)], [], sh, gc_h sh I10 J11 A)
      refine gv_run 2 true hD (pcₚ := 60) (lvₚ := [(0, .inr (.inr (some p))), (1, .inr (.inr (some a1))), (2, .inl v2_12)]) (stₚ := [.inl v2_12, .inr (.inr (some a1))]) (hₚ := gc_h sh I10 J11 A) (C := ((True ∧ True) ∧ True)) rfl ⟨⟨trivial, trivial⟩, trivial⟩ ?_
      obtain ⟨r100, h100, E100, P100⟩ := d_X11_cellsOf (ws0 := ws0) (tb := tb) hws htb sh ro I10 J11 A hI10 a1 v2_12 h_a1   ⟨by (/-94-/first | omega | (simp only [gz_hd] at *; omega)), by (/-95-/first | (have o1 := gz_sh hv2_12; omega) | (simp only [gz_hd] at *; omega))⟩  
      obtain ⟨rfl, ⟨z100, rfl, q100⟩⟩ := P100
      replace q100 := gz_hi q100
      refine gv_callV hD rfl (As := [.inl v2_12]) (st := []) rfl (gz_sh B_a1) S_a1 rfl (gc_lV2 hws rfl) (Nat.le_of_ble_eq_true rfl) (gz_Ev_mono (d := 2) (by decide) E100) ?_
      show gv_X _ _ (63, [(0, .inr (.inr (some p))), (1, .inr (.inr (some a1))), (2, .inl v2_12)], [.inl z100], sh, gc_h sh I10 J11 A)
      refine gv_run 3 true hD (pcₚ := 66) (lvₚ := [(3, .inl (z100 - 1)), (0, .inr (.inr (some p))), (1, .inr (.inr (some a1))), (2, .inl v2_12)]) (stₚ := []) (hₚ := gc_h sh I10 J11 A) (C := (((True ∧ True) ∧ True) ∧ True)) rfl ⟨⟨⟨trivial, trivial⟩, trivial⟩, trivial⟩ ?_
      refine gv_pick [1, 2, 3, 0] rfl ?_
      exact L66 _ I10 J11 (z100 - 1) (Nat.lt_succ_self _) hI10 FI10 FJ11 KFB_I10 (by (/-96-/first | (and_intros; (omega); (have o1 := gz_sh hv2_12; omega); (have o1 := gz_sh q100; omega); (have o1 := gz_sh q100; omega); (have o1 := gz_sh e0_12; omega); (have o1 := gz_sh e1_12; omega); (have o1 := gz_sh e2_12; omega); (have o1 := gz_sh e3_12; omega)) | (simp only [gz_hd] at *; omega)))
set_option maxHeartbeats 8000000 in
set_option maxRecDepth 100000 in
theorem d_X2_build_0 {ws0 : List Cond} {tb : String → gz_T} (hws : gc_Ws ws0) (htb : gc_tbs tb) (sh : gz_Sh) (ro : Nat → Nat) (I : gr_I) (J : gr_J) (A : gc_A) (hI : gc_Inv ro I) (p : Nat) (a1 : Nat) (hp : gc_isForms sh ro A p) (h_a1 : gc_isTongue sh ro A a1) (G_a1 : 144 ≤ a1)  (x0 : gc_sc (a1 + 10) I) (x1 : p = a1 + 17) (x2 : gc_FB p (24 * I p 8) I) (x3 : I p 8 ≤ I a1 11) : ∃ r hₚ, gz_Ev ws0 tb 5 (yX2_build, cX2_build, 7, none) [.inr (.inr (some p)), .inr (.inr (some a1))] sh (gc_h sh I J A) r sh hₚ 0 0 ∧ (∃ (Iₚ : gr_I) (Jₚ : gr_J), hₚ = gc_h sh Iₚ Jₚ A ∧ gc_Inv ro Iₚ ∧ (∀ q j : Nat, ((q = p ∧ j = 6) ∨ (q = p ∧ j = 7) ∨ (q = p ∧ j = 8) ∨ (q = p ∧ j = 9) ∨ q = (p + 1) ∨ q = (p + 2) ∨ q = (p + 3) ∨ q = (p + 4) ∨ q = (p + 6) ∨ q = (p + 7)) ∨ Iₚ q j = I q j) ∧ (∀ q j : Nat, (False) ∨ Jₚ q j = J q j) ∧ r = none ∧ (gc_FB p (24 * I a1 11) Iₚ) ∧ (Iₚ p 8 = I a1 11) ∧ (I p 6 = I p 7 ∨ ¬ Iₚ p 6 = Iₚ p 7)) := by
  have FI : ∀ q j : Nat, ((q = p ∧ j = 6) ∨ (q = p ∧ j = 7) ∨ (q = p ∧ j = 8) ∨ (q = p ∧ j = 9) ∨ q = (p + 1) ∨ q = (p + 2) ∨ q = (p + 3) ∨ q = (p + 4) ∨ q = (p + 6) ∨ q = (p + 7)) ∨ I q j = I q j := fun _ _ => Or.inr rfl
  have FJ : ∀ q j : Nat, (False) ∨ J q j = J q j := fun _ _ => Or.inr rfl
  obtain ⟨S_p, R_p, B_p, A_p_0, S_20, R_20, B_20, A_p_1, S_p_1, R_p_1, B_p_1, A_p_2, S_p_2, R_p_2, B_p_2, A_p_3, S_p_3, R_p_3, B_p_3, A_p_4, S_p_4, R_p_4, B_p_4, A_p_5, S_p_5, R_p_5, B_p_5, S_p_6, R_p_6, B_p_6, S_p_7, R_p_7, B_p_7⟩ := id hp
  replace R_p := gz_hi R_p
  replace B_p := gz_hi B_p
  replace R_20 := gz_hi R_20
  replace B_20 := gz_hi B_20
  replace R_p_1 := gz_hi R_p_1
  replace B_p_1 := gz_hi B_p_1
  replace R_p_2 := gz_hi R_p_2
  replace B_p_2 := gz_hi B_p_2
  replace R_p_3 := gz_hi R_p_3
  replace B_p_3 := gz_hi B_p_3
  replace R_p_4 := gz_hi R_p_4
  replace B_p_4 := gz_hi B_p_4
  replace R_p_5 := gz_hi R_p_5
  replace B_p_5 := gz_hi B_p_5
  replace R_p_6 := gz_hi R_p_6
  replace B_p_6 := gz_hi B_p_6
  replace R_p_7 := gz_hi R_p_7
  replace B_p_7 := gz_hi B_p_7
  obtain ⟨S_a1, R_a1, B_a1, A_a1_0, h_a1_1, A_a1_1, h_a1_3, A_a1_2, S_a1_5, R_a1_5, B_a1_5, A_a1_3, S_a1_6, R_a1_6, B_a1_6, A_a1_4, h_a1_7, A_a1_5, S_a1_9, R_a1_9, B_a1_9, A_a1_7, S_a1_10, R_a1_10, B_a1_10, A_a1_8, h_a1_11, A_a1_9, S_a1_13, R_a1_13, B_a1_13, A_a1_10, S_a1_14, R_a1_14, B_a1_14, A_a1_12, S_a1_15, R_a1_15, B_a1_15, A_a1_14, S_a1_16, R_a1_16, B_a1_16, A_a1_15, h_a1_17⟩ := id h_a1
  replace R_a1 := gz_hi R_a1
  replace B_a1 := gz_hi B_a1
  replace R_a1_5 := gz_hi R_a1_5
  replace B_a1_5 := gz_hi B_a1_5
  replace R_a1_6 := gz_hi R_a1_6
  replace B_a1_6 := gz_hi B_a1_6
  replace R_a1_9 := gz_hi R_a1_9
  replace B_a1_9 := gz_hi B_a1_9
  replace R_a1_10 := gz_hi R_a1_10
  replace B_a1_10 := gz_hi B_a1_10
  replace R_a1_13 := gz_hi R_a1_13
  replace B_a1_13 := gz_hi B_a1_13
  replace R_a1_14 := gz_hi R_a1_14
  replace B_a1_14 := gz_hi B_a1_14
  replace R_a1_15 := gz_hi R_a1_15
  replace B_a1_15 := gz_hi B_a1_15
  replace R_a1_16 := gz_hi R_a1_16
  replace B_a1_16 := gz_hi B_a1_16
  obtain ⟨S_a1_1, R_a1_1, B_a1_1, A_a1_1_0, S_a1_1_1, R_a1_1_1, B_a1_1_1, Q0_a1_1, Q1_a1_1, Q2_a1_1⟩ := id h_a1_1
  replace R_a1_1 := gz_hi R_a1_1
  replace B_a1_1 := gz_hi B_a1_1
  replace R_a1_1_1 := gz_hi R_a1_1_1
  replace B_a1_1_1 := gz_hi B_a1_1_1
  obtain ⟨S_a1_3, R_a1_3, B_a1_3, A_a1_3_0, S_a1_3_1, R_a1_3_1, B_a1_3_1, Q0_a1_3, Q1_a1_3, Q2_a1_3⟩ := id h_a1_3
  replace R_a1_3 := gz_hi R_a1_3
  replace B_a1_3 := gz_hi B_a1_3
  replace R_a1_3_1 := gz_hi R_a1_3_1
  replace B_a1_3_1 := gz_hi B_a1_3_1
  obtain ⟨S_a1_7, R_a1_7, B_a1_7, A_a1_7_0, S_a1_7_1, R_a1_7_1, B_a1_7_1, Q0_a1_7, Q1_a1_7, Q2_a1_7⟩ := id h_a1_7
  replace R_a1_7 := gz_hi R_a1_7
  replace B_a1_7 := gz_hi B_a1_7
  replace R_a1_7_1 := gz_hi R_a1_7_1
  replace B_a1_7_1 := gz_hi B_a1_7_1
  obtain ⟨S_a1_11, R_a1_11, B_a1_11, A_a1_11_0, S_a1_11_1, R_a1_11_1, B_a1_11_1, Q0_a1_11, Q1_a1_11, Q2_a1_11⟩ := id h_a1_11
  replace R_a1_11 := gz_hi R_a1_11
  replace B_a1_11 := gz_hi B_a1_11
  replace R_a1_11_1 := gz_hi R_a1_11_1
  replace B_a1_11_1 := gz_hi B_a1_11_1
  obtain ⟨S_a1_17, R_a1_17, B_a1_17, A_a1_17_0, S_20, R_20, B_20, A_a1_17_1, S_a1_17_1, R_a1_17_1, B_a1_17_1, A_a1_17_2, S_a1_17_2, R_a1_17_2, B_a1_17_2, A_a1_17_3, S_a1_17_3, R_a1_17_3, B_a1_17_3, A_a1_17_4, S_a1_17_4, R_a1_17_4, B_a1_17_4, A_a1_17_5, S_a1_17_5, R_a1_17_5, B_a1_17_5, S_a1_17_6, R_a1_17_6, B_a1_17_6, S_a1_17_7, R_a1_17_7, B_a1_17_7⟩ := id h_a1_17
  replace R_a1_17 := gz_hi R_a1_17
  replace B_a1_17 := gz_hi B_a1_17
  replace R_20 := gz_hi R_20
  replace B_20 := gz_hi B_20
  replace R_a1_17_1 := gz_hi R_a1_17_1
  replace B_a1_17_1 := gz_hi B_a1_17_1
  replace R_a1_17_2 := gz_hi R_a1_17_2
  replace B_a1_17_2 := gz_hi B_a1_17_2
  replace R_a1_17_3 := gz_hi R_a1_17_3
  replace B_a1_17_3 := gz_hi B_a1_17_3
  replace R_a1_17_4 := gz_hi R_a1_17_4
  replace B_a1_17_4 := gz_hi B_a1_17_4
  replace R_a1_17_5 := gz_hi R_a1_17_5
  replace B_a1_17_5 := gz_hi B_a1_17_5
  replace R_a1_17_6 := gz_hi R_a1_17_6
  replace B_a1_17_6 := gz_hi B_a1_17_6
  replace R_a1_17_7 := gz_hi R_a1_17_7
  replace B_a1_17_7 := gz_hi B_a1_17_7
  have hD : gv_D (gc_E2 ws0 tb 4 (yX2_build, cX2_build, 7, none) kX2_build) := gq_of oX2_build
  refine gc_ev2 (d := 4) (l := kX2_build) (Po := fun r hₚ => (∃ (Iₚ : gr_I) (Jₚ : gr_J), hₚ = gc_h sh Iₚ Jₚ A ∧ gc_Inv ro Iₚ ∧ (∀ q j : Nat, ((q = p ∧ j = 6) ∨ (q = p ∧ j = 7) ∨ (q = p ∧ j = 8) ∨ (q = p ∧ j = 9) ∨ q = (p + 1) ∨ q = (p + 2) ∨ q = (p + 3) ∨ q = (p + 4) ∨ q = (p + 6) ∨ q = (p + 7)) ∨ Iₚ q j = I q j) ∧ (∀ q j : Nat, (False) ∨ Jₚ q j = J q j) ∧ r = none ∧ (gc_FB p (24 * I a1 11) Iₚ) ∧ (Iₚ p 8 = I a1 11) ∧ (I p 6 = I p 7 ∨ ¬ Iₚ p 6 = Iₚ p 7))) htb rfl (Nat.le_of_ble_eq_true rfl) ?_
  have N_a1__p_2 := gz_hi (show ¬ (a1 = (p + 2)) from by (/-0-/first | omega | (simp only [gz_hd] at *; omega)))
  have N_p__p_2 := gz_hi (show ¬ (p = (p + 2)) from by (/-1-/first | omega | (simp only [gz_hd] at *; omega)))
  have N_p_4__p_2 := gz_hi (show ¬ ((p + 4) = (p + 2)) from by (/-2-/first | omega | (simp only [gz_hd] at *; omega)))
  have N_p_3__p_2 := gz_hi (show ¬ ((p + 3) = (p + 2)) from by (/-3-/first | omega | (simp only [gz_hd] at *; omega)))
  have N_p_4__p_1 := gz_hi (show ¬ ((p + 4) = (p + 1)) from by (/-4-/first | omega | (simp only [gz_hd] at *; omega)))
  have N_p_3__p_1 := gz_hi (show ¬ ((p + 3) = (p + 1)) from by (/-5-/first | omega | (simp only [gz_hd] at *; omega)))
  have N_a1__p_1 := gz_hi (show ¬ (a1 = (p + 1)) from by (/-6-/first | omega | (simp only [gz_hd] at *; omega)))
  have N_p__p_1 := gz_hi (show ¬ (p = (p + 1)) from by (/-7-/first | omega | (simp only [gz_hd] at *; omega)))
  have N_p_2__p_1 := gz_hi (show ¬ ((p + 2) = (p + 1)) from by (/-8-/first | omega | (simp only [gz_hd] at *; omega)))
  have N_a1__p_3 := gz_hi (show ¬ (a1 = (p + 3)) from by (/-9-/first | omega | (simp only [gz_hd] at *; omega)))
  have N_p__p_3 := gz_hi (show ¬ (p = (p + 3)) from by (/-10-/first | omega | (simp only [gz_hd] at *; omega)))
  have N_p_2__p_3 := gz_hi (show ¬ ((p + 2) = (p + 3)) from by (/-11-/first | omega | (simp only [gz_hd] at *; omega)))
  have N_a1__p_4 := gz_hi (show ¬ (a1 = (p + 4)) from by (/-12-/first | omega | (simp only [gz_hd] at *; omega)))
  have N_p__p_4 := gz_hi (show ¬ (p = (p + 4)) from by (/-13-/first | omega | (simp only [gz_hd] at *; omega)))
  have N_p_2__p_4 := gz_hi (show ¬ ((p + 2) = (p + 4)) from by (/-14-/first | omega | (simp only [gz_hd] at *; omega)))
  have N_a1__p_6 := gz_hi (show ¬ (a1 = (p + 6)) from by (/-15-/first | omega | (simp only [gz_hd] at *; omega)))
  have N_a1__p_7 := gz_hi (show ¬ (a1 = (p + 7)) from by (/-16-/first | omega | (simp only [gz_hd] at *; omega)))
  have N_p__p_6 := gz_hi (show ¬ (p = (p + 6)) from by (/-17-/first | omega | (simp only [gz_hd] at *; omega)))
  have N_p__p_7 := gz_hi (show ¬ (p = (p + 7)) from by (/-18-/first | omega | (simp only [gz_hd] at *; omega)))
  have N_p_2__p_6 := gz_hi (show ¬ ((p + 2) = (p + 6)) from by (/-19-/first | omega | (simp only [gz_hd] at *; omega)))
  have N_p_2__p_7 := gz_hi (show ¬ ((p + 2) = (p + 7)) from by (/-20-/first | omega | (simp only [gz_hd] at *; omega)))
  have N_p_4__p_6 := gz_hi (show ¬ ((p + 4) = (p + 6)) from by (/-21-/first | omega | (simp only [gz_hd] at *; omega)))
  have N_p_4__p_7 := gz_hi (show ¬ ((p + 4) = (p + 7)) from by (/-22-/first | omega | (simp only [gz_hd] at *; omega)))
  have N_p_3__p_6 := gz_hi (show ¬ ((p + 3) = (p + 6)) from by (/-23-/first | omega | (simp only [gz_hd] at *; omega)))
  have N_p_3__p_7 := gz_hi (show ¬ ((p + 3) = (p + 7)) from by (/-24-/first | omega | (simp only [gz_hd] at *; omega)))
  have N_p_2__p := gz_hi (show ¬ ((p + 2) = p) from by (/-25-/first | omega | (simp only [gz_hd] at *; omega)))
  have N_p_4__p := gz_hi (show ¬ ((p + 4) = p) from by (/-26-/first | omega | (simp only [gz_hd] at *; omega)))
  have N_p_3__p := gz_hi (show ¬ ((p + 3) = p) from by (/-27-/first | omega | (simp only [gz_hd] at *; omega)))
  have f1 := gz_hi ((show 0 ≤ I a1 11 ∧ I a1 11 ≤ 64 from gc_in2 hI (gz_sh R_a1) rfl rfl rfl))
  have f2 := gz_hi ((show 0 ≤ I p 8 ∧ I p 8 ≤ 64 from gc_in2 hI (gz_sh R_p) rfl rfl rfl))
  have L23 : ((I a1 11 = I a1 11) ∧ (I p 6 = I p 7 ∨ ¬ I p 6 = I p 7)) → gv_X (gc_E2 ws0 tb 4 (yX2_build, cX2_build, 7, none) kX2_build) (gv_Q cX2_build none sh (fun r hₚ => (∃ (Iₚ : gr_I) (Jₚ : gr_J), hₚ = gc_h sh Iₚ Jₚ A ∧ gc_Inv ro Iₚ ∧ (∀ q j : Nat, ((q = p ∧ j = 6) ∨ (q = p ∧ j = 7) ∨ (q = p ∧ j = 8) ∨ (q = p ∧ j = 9) ∨ q = (p + 1) ∨ q = (p + 2) ∨ q = (p + 3) ∨ q = (p + 4) ∨ q = (p + 6) ∨ q = (p + 7)) ∨ Iₚ q j = I q j) ∧ (∀ q j : Nat, (False) ∨ Jₚ q j = J q j) ∧ r = none ∧ (gc_FB p (24 * I a1 11) Iₚ) ∧ (Iₚ p 8 = I a1 11) ∧ (I p 6 = I p 7 ∨ ¬ Iₚ p 6 = Iₚ p 7)))) (23, [(0, .inr (.inr (some p))), (1, .inr (.inr (some a1)))], [], sh, gc_h sh I J A) := by
    intro m_5
    obtain ⟨e0_5, e1_5⟩ := gz_h2 m_5
    have L54 : ∀ (n9 : Nat) (I10 : gr_I) (J11 : gr_J) (v2_12 : Int), (v2_12 - (-2)).toNat < n9 → gc_Inv ro I10 → (∀ q j : Nat, ((q = p ∧ j = 6) ∨ (q = p ∧ j = 7) ∨ (q = p ∧ j = 8) ∨ (q = p ∧ j = 9) ∨ q = (p + 1) ∨ q = (p + 2) ∨ q = (p + 3) ∨ q = (p + 4) ∨ q = (p + 6) ∨ q = (p + 7)) ∨ I10 q j = I q j) → (∀ q j : Nat, (False) ∨ J11 q j = J q j) → gc_FB p (24 * I a1 11) I10 → (((-1) ≤ v2_12 ∧ v2_12 ≤ 63) ∧ (v2_12 < I a1 11) ∧ (I10 p 8 = I a1 11) ∧ (I10 a1 11 = I a1 11) ∧ (I p 6 = I p 7 ∨ ¬ I10 p 6 = I10 p 7)) → gv_X (gc_E2 ws0 tb 4 (yX2_build, cX2_build, 7, none) kX2_build) (gv_Q cX2_build none sh (fun r hₚ => (∃ (Iₚ : gr_I) (Jₚ : gr_J), hₚ = gc_h sh Iₚ Jₚ A ∧ gc_Inv ro Iₚ ∧ (∀ q j : Nat, ((q = p ∧ j = 6) ∨ (q = p ∧ j = 7) ∨ (q = p ∧ j = 8) ∨ (q = p ∧ j = 9) ∨ q = (p + 1) ∨ q = (p + 2) ∨ q = (p + 3) ∨ q = (p + 4) ∨ q = (p + 6) ∨ q = (p + 7)) ∨ Iₚ q j = I q j) ∧ (∀ q j : Nat, (False) ∨ Jₚ q j = J q j) ∧ r = none ∧ (gc_FB p (24 * I a1 11) Iₚ) ∧ (Iₚ p 8 = I a1 11) ∧ (I p 6 = I p 7 ∨ ¬ Iₚ p 6 = Iₚ p 7)))) (54, [(0, .inr (.inr (some p))), (1, .inr (.inr (some a1))), (2, .inl v2_12)], [], sh, gc_h sh I10 J11 A) := d_X2_build_0_L54 (ws0 := ws0) (tb := tb) hws htb sh ro I J A hI p a1 hp h_a1 G_a1 x0 x1 x2 x3
    refine gv_run 2 true hD (pcₚ := 25) (lvₚ := [(0, .inr (.inr (some p))), (1, .inr (.inr (some a1)))]) (stₚ := [.inr (.inr (some a1)), .inr (.inr (some p))]) (hₚ := gc_h sh I J A) (C := ((True ∧ True) ∧ True)) rfl ⟨⟨trivial, trivial⟩, trivial⟩ ?_
    refine gv_get hD rfl rfl S_a1 ⟨by decide, (gz_sh B_a1)⟩ (gc_hI S_a1 rfl) ?_
    show gv_X _ _ (28, [(0, .inr (.inr (some p))), (1, .inr (.inr (some a1)))], [.inl (I a1 11), .inr (.inr (some p))], sh, gc_h sh I J A)
    refine gv_put hD rfl rfl S_p ⟨by decide, (gz_sh B_p)⟩ rfl trivial ?_
    refine gc_st (k := 8) hI S_p rfl (gz_sh R_p) (lo := 0) (hi := 64) rfl rfl (by (/-97-/first | (have o1 := gz_sh f1; omega) | (simp only [gz_hd] at *; omega))) (by (/-98-/first | (have o1 := gz_sh f1; omega) | (simp only [gz_hd] at *; omega))) (fun I102 hI102 q103 p103 => ?_)
    have FI102 := gc_frs (W := fun q j => (q = p ∧ j = 6) ∨ (q = p ∧ j = 7) ∨ (q = p ∧ j = 8) ∨ (q = p ∧ j = 9) ∨ q = (p + 1) ∨ q = (p + 2) ∨ q = (p + 3) ∨ q = (p + 4) ∨ q = (p + 6) ∨ q = (p + 7)) FI (Or.inr (Or.inr (Or.inl ⟨rfl, rfl⟩))) p103
    have t104 := gz_hi (p103 a1 11 (fun h => absurd h.2 (by first | exact gz_ne rfl | decide)))
    have t105 := gz_hi (p103 p 6 (fun h => absurd h.2 (by first | exact gz_ne rfl | decide)))
    have t106 := gz_hi (p103 p 7 (fun h => absurd h.2 (by first | exact gz_ne rfl | decide)))
    show gv_X _ _ (31, [(0, .inr (.inr (some p))), (1, .inr (.inr (some a1)))], [], sh, gc_h sh I102 J A)
    refine gv_run 2 true hD (pcₚ := 33) (lvₚ := [(0, .inr (.inr (some p))), (1, .inr (.inr (some a1)))]) (stₚ := [.inr (.inr (some a1)), .inr (.inr (some p))]) (hₚ := gc_h sh I102 J A) (C := ((True ∧ True) ∧ True)) rfl ⟨⟨trivial, trivial⟩, trivial⟩ ?_
    have f108 := gz_hi ((show 0 ≤ I102 a1 6 ∧ I102 a1 6 ≤ 24 from gc_in2 hI102 (gz_sh R_a1) rfl rfl rfl))
    refine gv_get hD rfl rfl S_a1 ⟨by decide, (gz_sh B_a1)⟩ (gc_hI S_a1 rfl) ?_
    show gv_X _ _ (36, [(0, .inr (.inr (some p))), (1, .inr (.inr (some a1)))], [.inl (I102 a1 6), .inr (.inr (some p))], sh, gc_h sh I102 J A)
    refine gv_put hD rfl rfl S_p ⟨by decide, (gz_sh B_p)⟩ rfl trivial ?_
    refine gc_st (k := 9) hI102 S_p rfl (gz_sh R_p) (lo := 0) (hi := 24) rfl rfl (by (/-99-/first | (have o1 := gz_sh f108; omega) | (simp only [gz_hd] at *; omega))) (by (/-100-/first | (have o1 := gz_sh f108; omega) | (simp only [gz_hd] at *; omega))) (fun I109 hI109 q110 p110 => ?_)
    have FI109 := gc_frs (W := fun q j => (q = p ∧ j = 6) ∨ (q = p ∧ j = 7) ∨ (q = p ∧ j = 8) ∨ (q = p ∧ j = 9) ∨ q = (p + 1) ∨ q = (p + 2) ∨ q = (p + 3) ∨ q = (p + 4) ∨ q = (p + 6) ∨ q = (p + 7)) FI102 (Or.inr (Or.inr (Or.inr (Or.inl ⟨rfl, rfl⟩)))) p110
    have t111 := gz_hi (p110 a1 11 (fun h => absurd h.2 (by first | exact gz_ne rfl | decide)))
    have t112 := gz_hi (p110 p 8 (fun h => absurd h.2 (by first | exact gz_ne rfl | decide)))
    have t113 := gz_hi (p110 p 6 (fun h => absurd h.2 (by first | exact gz_ne rfl | decide)))
    have t114 := gz_hi (p110 p 7 (fun h => absurd h.2 (by first | exact gz_ne rfl | decide)))
    show gv_X _ _ (39, [(0, .inr (.inr (some p))), (1, .inr (.inr (some a1)))], [], sh, gc_h sh I109 J A)
    refine gv_run 1 true hD (pcₚ := 40) (lvₚ := [(0, .inr (.inr (some p))), (1, .inr (.inr (some a1)))]) (stₚ := [.inr (.inr (some p))]) (hₚ := gc_h sh I109 J A) (C := (True ∧ True)) rfl ⟨trivial, trivial⟩ ?_
    refine gv_get hD rfl rfl S_p ⟨by decide, (gz_sh B_p)⟩ (gc_hA S_p rfl A_p_4) ?_
    show gv_X _ _ (43, [(0, .inr (.inr (some p))), (1, .inr (.inr (some a1)))], [.inr (.inr (some (p + 4)))], sh, gc_h sh I109 J A)
    refine gv_run 1 true hD (pcₚ := 44) (lvₚ := [(0, .inr (.inr (some p))), (1, .inr (.inr (some a1)))]) (stₚ := [.inl (-1), .inr (.inr (some (p + 4)))]) (hₚ := gc_h sh I109 J A) (C := (True ∧ True)) rfl ⟨trivial, trivial⟩ ?_
    obtain ⟨I116, E115, hI116, g115, q115⟩ := gj_fill (ws0 := ws0) (tb := tb) sh ro I109 J A hI109 (p + 4) 512 (-1) S_p_4 (gz_sh B_p_4) (by decide) ⟨by (/-101-/first | omega | (simp only [gz_hd] at *; omega)), by (/-102-/first | omega | (simp only [gz_hd] at *; omega))⟩ (fun k => by rw [(gz_sh R_p_4)]; exact ⟨by show (-1) ≤ _; (/-103-/first | omega | (simp only [gz_hd] at *; omega)), by show _ ≤ 1535; (/-104-/first | omega | (simp only [gz_hd] at *; omega))⟩)
    refine gv_callS hD rfl (As := [.inr (.inr (some (p + 4))), .inl (-1)]) (st := []) rfl (gc_lS2 hws rfl) (Nat.le_of_ble_eq_true rfl) (gz_Ev_mono (d := 1) (by decide) E115) ?_
    have FI116 := gc_frc (W := fun q j => (q = p ∧ j = 6) ∨ (q = p ∧ j = 7) ∨ (q = p ∧ j = 8) ∨ (q = p ∧ j = 9) ∨ q = (p + 1) ∨ q = (p + 2) ∨ q = (p + 3) ∨ q = (p + 4) ∨ q = (p + 6) ∨ q = (p + 7)) (V := fun q j => q = (p + 4)) FI109 (fun q j h => (Or.inr (Or.inr (Or.inr (Or.inr (Or.inr (Or.inr (Or.inr (Or.inl h))))))))) g115
    have KFB_I116 : gc_FB p (24 * I a1 11) I116 := gc_FB_fill x2 (by (/-105-/first | omega | (simp only [gz_hd] at *; omega))) (by (/-106-/first | (have o1 := gz_sh f1; omega) | (simp only [gz_hd] at *; omega))) q115 (fun k => ((g115 (p + 3) k).resolve_left (by (/-107-/first | omega | (simp only [gz_hd] at *; omega)))).trans (((p110 (p + 3) k (fun h => absurd h.1 (by (/-108-/first | (have o1 := gz_sh N_p_3__p; omega) | (simp only [gz_hd] at *; omega))))).trans (p103 (p + 3) k (fun h => absurd h.1 (by (/-109-/first | (have o1 := gz_sh N_p_3__p; omega) | (simp only [gz_hd] at *; omega))))))))
    have t118 := gz_hi ((g115 a1 11).resolve_left (fun h => absurd h (gz_sh N_a1__p_4)))
    have t119 := gz_hi ((g115 p 8).resolve_left (fun h => absurd h (gz_sh N_p__p_4)))
    have t120 := gz_hi ((g115 p 6).resolve_left (fun h => absurd h (gz_sh N_p__p_4)))
    have t121 := gz_hi ((g115 p 7).resolve_left (fun h => absurd h (gz_sh N_p__p_4)))
    show gv_X _ _ (47, [(0, .inr (.inr (some p))), (1, .inr (.inr (some a1)))], [], sh, gc_h sh I116 J A)
    refine gv_run 1 true hD (pcₚ := 48) (lvₚ := [(0, .inr (.inr (some p))), (1, .inr (.inr (some a1)))]) (stₚ := [.inr (.inr (some a1))]) (hₚ := gc_h sh I116 J A) (C := (True ∧ True)) rfl ⟨trivial, trivial⟩ ?_
    refine gv_get hD rfl rfl S_a1 ⟨by decide, (gz_sh B_a1)⟩ (gc_hI S_a1 rfl) ?_
    show gv_X _ _ (51, [(0, .inr (.inr (some p))), (1, .inr (.inr (some a1)))], [.inl (I116 a1 11)], sh, gc_h sh I116 J A)
    refine gv_run 3 true hD (pcₚ := 54) (lvₚ := [(2, .inl ((I116 a1 11) - 1)), (0, .inr (.inr (some p))), (1, .inr (.inr (some a1)))]) (stₚ := []) (hₚ := gc_h sh I116 J A) (C := (((True ∧ True) ∧ True) ∧ True)) rfl ⟨⟨⟨trivial, trivial⟩, trivial⟩, trivial⟩ ?_
    refine gv_pick [1, 2, 0] rfl ?_
    exact L54 _ I116 J (((I116 a1 11) - 1)) (Nat.lt_succ_self _) hI116 FI116 FJ KFB_I116 (by (/-110-/first | (and_intros; (have o1 := gz_sh f1; have o2 := gz_sh t104; have o3 := gz_sh t111; have o4 := gz_sh t118; omega); (have o1 := gz_sh f1; have o2 := gz_sh t104; have o3 := gz_sh t111; have o4 := gz_sh t118; omega); (have o1 := gz_sh t104; have o2 := gz_sh t111; have o3 := gz_sh t118; omega); (have o1 := gz_sh t112; have o2 := gz_sh t119; omega); (have o1 := gz_sh t104; have o2 := gz_sh t111; have o3 := gz_sh t118; omega); (have o1 := gz_sh t105; have o2 := gz_sh t106; have o3 := gz_sh t113; have o4 := gz_sh t114; have o5 := gz_sh t120; have o6 := gz_sh t121; omega)) | (simp only [gz_hd] at *; omega)))
  refine gv_run 1 true hD (pcₚ := 1) (lvₚ := [(0, .inr (.inr (some p))), (1, .inr (.inr (some a1)))]) (stₚ := [.inr (.inr (some p))]) (hₚ := gc_h sh I J A) (C := (True ∧ True)) rfl ⟨trivial, trivial⟩ ?_
  refine gv_get hD rfl rfl S_p ⟨by decide, (gz_sh B_p)⟩ (gc_hI S_p rfl) ?_
  show gv_X _ _ (4, [(0, .inr (.inr (some p))), (1, .inr (.inr (some a1)))], [.inl (I p 8)], sh, gc_h sh I J A)
  refine gv_run 1 true hD (pcₚ := 5) (lvₚ := [(0, .inr (.inr (some p))), (1, .inr (.inr (some a1)))]) (stₚ := [.inr (.inr (some a1)), .inl (I p 8)]) (hₚ := gc_h sh I J A) (C := (True ∧ True)) rfl ⟨trivial, trivial⟩ ?_
  refine gv_get hD rfl rfl S_a1 ⟨by decide, (gz_sh B_a1)⟩ (gc_hI S_a1 rfl) ?_
  show gv_X _ _ (8, [(0, .inr (.inr (some p))), (1, .inr (.inr (some a1)))], [.inl (I a1 11), .inl (I p 8)], sh, gc_h sh I J A)
  refine gv_icmp_ne (t := 23) hD rfl rfl ⟨⟨by (/-111-/first | (have o1 := gz_sh f2; omega) | (simp only [gz_hd] at *; omega)), by (/-112-/first | (have o1 := gz_sh f2; omega) | (simp only [gz_hd] at *; omega))⟩, ⟨by (/-113-/first | (have o1 := gz_sh f1; omega) | (simp only [gz_hd] at *; omega)), by (/-114-/first | (have o1 := gz_sh f1; omega) | (simp only [gz_hd] at *; omega))⟩⟩ (fun c129 => ?_) (fun c129 => ?_)
  · show gv_X _ _ (23, [(0, .inr (.inr (some p))), (1, .inr (.inr (some a1)))], [], sh, gc_h sh I J A)
    exact L23 (by (/-115-/first | (and_intros <;> omega) | (simp only [gz_hd] at *; omega)))
  · show gv_X _ _ (11, [(0, .inr (.inr (some p))), (1, .inr (.inr (some a1)))], [], sh, gc_h sh I J A)
    refine gv_run 1 true hD (pcₚ := 12) (lvₚ := [(0, .inr (.inr (some p))), (1, .inr (.inr (some a1)))]) (stₚ := [.inr (.inr (some p))]) (hₚ := gc_h sh I J A) (C := (True ∧ True)) rfl ⟨trivial, trivial⟩ ?_
    have f130 := gz_hi ((show 0 ≤ I p 9 ∧ I p 9 ≤ 24 from gc_in2 hI (gz_sh R_p) rfl rfl rfl))
    refine gv_get hD rfl rfl S_p ⟨by decide, (gz_sh B_p)⟩ (gc_hI S_p rfl) ?_
    show gv_X _ _ (15, [(0, .inr (.inr (some p))), (1, .inr (.inr (some a1)))], [.inl (I p 9)], sh, gc_h sh I J A)
    refine gv_run 1 true hD (pcₚ := 16) (lvₚ := [(0, .inr (.inr (some p))), (1, .inr (.inr (some a1)))]) (stₚ := [.inr (.inr (some a1)), .inl (I p 9)]) (hₚ := gc_h sh I J A) (C := (True ∧ True)) rfl ⟨trivial, trivial⟩ ?_
    have f131 := gz_hi ((show 0 ≤ I a1 6 ∧ I a1 6 ≤ 24 from gc_in2 hI (gz_sh R_a1) rfl rfl rfl))
    refine gv_get hD rfl rfl S_a1 ⟨by decide, (gz_sh B_a1)⟩ (gc_hI S_a1 rfl) ?_
    show gv_X _ _ (19, [(0, .inr (.inr (some p))), (1, .inr (.inr (some a1)))], [.inl (I a1 6), .inl (I p 9)], sh, gc_h sh I J A)
    refine gv_icmp_ne (t := 23) hD rfl rfl ⟨⟨by (/-116-/first | (have o1 := gz_sh f130; omega) | (simp only [gz_hd] at *; omega)), by (/-117-/first | (have o1 := gz_sh f130; omega) | (simp only [gz_hd] at *; omega))⟩, ⟨by (/-118-/first | (have o1 := gz_sh f131; omega) | (simp only [gz_hd] at *; omega)), by (/-119-/first | (have o1 := gz_sh f131; omega) | (simp only [gz_hd] at *; omega))⟩⟩ (fun c132 => ?_) (fun c132 => ?_)
    · show gv_X _ _ (23, [(0, .inr (.inr (some p))), (1, .inr (.inr (some a1)))], [], sh, gc_h sh I J A)
      exact L23 (by (/-120-/first | (and_intros <;> omega) | (simp only [gz_hd] at *; omega)))
    · show gv_X _ _ (22, [(0, .inr (.inr (some p))), (1, .inr (.inr (some a1)))], [], sh, gc_h sh I J A)
      exact gv_vret hD rfl ⟨I, J, rfl, hI, FI, FJ, ⟨rfl, (by rw [show I a1 11 = I p 8 from by (/-121-/first | omega | (simp only [gz_hd] at *; omega))]; exact x2), by (/-122-/first | omega | (simp only [gz_hd] at *; omega)), by (/-123-/first | omega | (simp only [gz_hd] at *; omega))⟩⟩
