/-! PARITY: MODULE, the reference's side -/
theorem gs_TX_cp {β : Int → Int} {N : Int} {r r' : Nat → Int} (h : gs_TX β N r) (e : ∀ j : Nat, (j : Int) < N → r' j = r j) : gs_TX β N r' := fun k => ⟨fun h0 h1 => by
  rw [e (Int.toNat k) (by omega)]
  exact (h k).1 h0 h1, (h k).2⟩
/-- n good statements from p on -/
def gs_MR (β : Int → Int) (N : Int) : Nat → Int → gr_I → gr_J → Int → gr_I → gr_J → Prop
  | 0, p, I, J, q, I', J' => q = p ∧ gs_TsX [] I J I' J' ∧ gr_LV I I'
  | n + 1, p, I, J, q, I', J' => ∃ (q1 : Int) (I1 : gr_I) (J1 : gr_J), gs_MR β N n p I J q1 I1 J1 ∧ ¬ gs_T β N q1 = 4 ∧ gs_SS β N q1 I1 J1 I' J' q
def gs_M0 (β : Int → Int) (N n : Int) (I : gr_I) (J : gr_J) (p : Int) (I' : gr_I) (J' : gr_J) : Prop := ∃ (I0 : gr_I) (J0 : gr_J), gs_TsX [199] I J I0 J0 ∧ gr_LV I I0 ∧ I0 0 99 = 0 ∧ gs_MR β N (Int.toNat n) 0 I0 J0 p I' J'
theorem gs_M0_0 {β : Int → Int} {N : Int} {I I0 : gr_I} {J J0 : gr_J} (h : gs_TsX [199] I J I0 J0) (hl : gr_LV I I0) (h0 : I0 0 99 = 0) : gs_M0 β N 0 I J 0 I0 J0 := ⟨I0, J0, h, hl, h0, rfl, gs_Ts_rf, gr_LV_rf⟩
theorem gs_M0_s {β : Int → Int} {N n : Int} {I I1 I2 : gr_I} {J J1 J2 : gr_J} {p q : Int} (h : gs_M0 β N n I J p I1 J1) (hn : 0 ≤ n) (hT : ¬ gs_T β N p = 4) (hS : gs_SS β N p I1 J1 I2 J2 q) : gs_M0 β N (n + 1) I J q I2 J2 := by
  obtain ⟨I0, J0, a, l, b, c⟩ := h
  refine ⟨I0, J0, a, l, b, ?_⟩
  rw [show Int.toNat (n + 1) = Int.toNat n + 1 from by omega]
  exact ⟨p, I1, J1, c, hT, hS⟩
/-- what a wrong module leaves: counts as before (I), the rest as it came (I2), meanings taken back -/
def gs_BK (I I2 : gr_I) (J2 : gr_J) (I' : gr_I) (J' : gr_J) : Prop :=
  (I' 0 1 = I 0 1 ∧ I' 0 2 = I 0 2 ∧ I' 0 3 = I 0 3 ∧ I' 0 4 = I 0 4 ∧ I' 0 5 = I 0 5 ∧ I' 0 6 = I 0 6) ∧ (∀ t : Nat, t < 8 → I' 13 t = I 13 t ∧ I' 14 t = I 14 t ∧ I' 15 t = I 15 t ∧ I' 16 t = I 16 t ∧ I' 17 t = I 17 t ∧ I' 18 t = I 18 t ∧ I' 19 t = I 19 t) ∧
  (∀ j : Nat, (j : Int) < I2 0 99 → I' 10 (Int.toNat (I2 60 j)) = -1) ∧ (∀ f : Nat, I' 10 f = I2 10 f ∨ ∃ j : Nat, (j : Int) < I2 0 99 ∧ Int.toNat (I2 60 j) = f) ∧
  gs_TsX [101, 102, 103, 104, 105, 106, 13, 14, 15, 16, 17, 18, 19, 10] I2 J2 I' J' ∧ (I' 0 59 = I 0 59 ∧ ∀ j, I' 51 j = I2 51 j) ∧ (I' 0 42 = I 0 42 ∧ ∀ j, I' 35 j = I2 35 j)
def gs_MD (β : Int → Int) (N r : Int) (I : gr_I) (J : gr_J) (I' : gr_I) (J' : gr_J) : Prop := ∃ (n q : Int) (I2 : gr_I) (J2 : gr_J), 0 ≤ n ∧ gs_M0 β N n I J q I2 J2 ∧ ((gs_T β N q = 4 ∧ r = n ∧ gs_TsX [] I2 J2 I' J' ∧ gr_LV I2 I') ∨ (¬ gs_T β N q = 4 ∧ ∃ (I3 : gr_I) (J3 : gr_J) (I4 : gr_I) (J4 : gr_J), gs_TsX [] I2 J2 I3 J3 ∧ gs_stc β N I3 J3 q < 0 ∧ r = gs_stc β N I3 J3 q ∧ gs_TsX [] I2 J2 I4 J4 ∧ (gr_LV I2 I3 ∧ gr_LV I2 I4) ∧ gs_BK I I4 J4 I' J'))
def gr_FX (I I' : gr_I) (k : Int) : Prop := ∀ f : Nat, I' 10 f = I 10 f ∨ ∃ j : Nat, (j : Int) < k ∧ Int.toNat (I 60 j) = f
theorem gr_FX_0 {I I' : gr_I} (h : gr_FQ I I') : gr_FX I I' 0 := fun f => Or.inl (h f)
theorem gr_FX_nx {I I1 I' : gr_I} {k : Int} {j : Nat} (h : gr_FX I I1 k) (hk : 0 ≤ k) (p : ∀ b i, ¬ (b = 10 ∧ i = j) → I' b i = I1 b i) (hj : j = Int.toNat (I 60 (Int.toNat k))) : gr_FX I I' (k + 1) := fun f => by
  by_cases c : f = j
  · exact Or.inr ⟨Int.toNat k, by omega, by rw [c, hj]⟩
  · rcases h f with e | ⟨i, a, b⟩
    · exact Or.inl ((p 10 f (fun q => c q.2)).trans e)
    · exact Or.inr ⟨i, by omega, b⟩
theorem gr_FX_m {I I' : gr_I} {k m : Int} (h : gr_FX I I' k) (hm : k ≤ m) : gr_FX I I' m := fun f => by
  rcases h f with e | ⟨i, a, b⟩
  · exact Or.inl e
  · exact Or.inr ⟨i, by omega, b⟩
theorem gs_BK_mk {I I2 I3 I4 : gr_I} {J2 J3 J4 : gr_J} (h1 : I4 0 1 = I 0 1 ∧ I4 0 2 = I 0 2 ∧ I4 0 3 = I 0 3 ∧ I4 0 4 = I 0 4 ∧ I4 0 5 = I 0 5 ∧ I4 0 6 = I 0 6) (hr : gr_RT8 I I2) (hf : gr_FT I2 I3 8) (fg : gr_FG I2 I3 (I2 0 99)) (fx : gr_FX I2 I3 (I2 0 99)) (p : ∀ a j, ¬ a = 0 → I4 a j = I3 a j) (ts : gs_TsX [101, 102, 103, 104, 105, 106, 13, 14, 15, 16, 17, 18, 19, 10] I2 J2 I4 J4) (lt : (I4 0 59 = I 0 59 ∧ ∀ j, I4 51 j = I2 51 j) ∧ (I4 0 42 = I 0 42 ∧ ∀ j, I4 35 j = I2 35 j)) : gs_BK I I2 J2 I4 J4 := by
  refine ⟨h1, fun t ht => ?_, fun j hj => ?_, fun f => ?_, ts, lt⟩
  · have h := gr_back hr hf t ht
    rw [p 13 t (by decide), p 14 t (by decide), p 15 t (by decide), p 16 t (by decide), p 17 t (by decide), p 18 t (by decide), p 19 t (by decide)]
    exact h
  · rw [p 10 _ (by decide)]
    exact fg.1 j hj
  · rw [p 10 _ (by decide)]
    exact fx f
set_option maxHeartbeats 8000000 in
set_option maxRecDepth 100000 in
theorem r_reads_p {ws0 : List Cond} {tb : String → gz_T} (hws : ∀ w ∈ gr_ws, w ∈ ws0) (htb : tb RX13 = gr_T) (ext : gz_Sh) (I : gr_I) (J : gr_J) (hI : gr_Inv I)    : ∃ r h', gz_Ev ws0 tb 1 (yX13_reads, cX13_reads, 2, none) [.inr (.inr (some 0))] (gr_sh ++ ext) (gr_h I J) r (gr_sh ++ ext) h' 0 0 ∧ (∃ (I' : gr_I) (J' : gr_J), h' = gr_h I' J' ∧ gr_Inv I' ∧ gr_fr [68, 69] [57] I I' ∧ gr_fj [68, 69] [57] J J' ∧ r = none ∧ ((I' 0 69 = I 0 68) ∧ ∀ j : Nat, (j : Int) < I 0 68 → I' 57 j = I 56 j) ∧ (I' 0 68 = 0) ∧ (I' 0 68 = 0)) := by
  have FI : gr_fr [68, 69] [57] I I := fun _ _ _ => rfl
  have FJ : gr_fj [68, 69] [57] J J := fun _ _ _ => rfl
  have hD : gv_D (gr_E ws0 tb 0 (yX13_reads, cX13_reads, 2, none) kX13_reads) := gq_of oX13_reads
  refine gr_ev (d := 0) (l := kX13_reads) (Po := fun r h' => (∃ (I' : gr_I) (J' : gr_J), h' = gr_h I' J' ∧ gr_Inv I' ∧ gr_fr [68, 69] [57] I I' ∧ gr_fj [68, 69] [57] J J' ∧ r = none ∧ ((I' 0 69 = I 0 68) ∧ ∀ j : Nat, (j : Int) < I 0 68 → I' 57 j = I 56 j) ∧ (I' 0 68 = 0) ∧ (I' 0 68 = 0))) htb rfl (Nat.le_of_ble_eq_true rfl) ?_
  have f1 := (gr_b_0_68 hI)
  have f2 := (gr_b_0_69 hI)
  have L10 : ∀ (n : Nat) (I3 : gr_I) (J4 : gr_J) (v1_5 : Int), (1001 - v1_5).toNat < n → gr_Inv I3 → gr_fr [68, 69] [57] I I3 → gr_fj [68, 69] [57] J J4 → ((0 ≤ v1_5 ∧ v1_5 ≤ 1000) ∧ (I3 0 69 = I 0 68) ∧ (I3 0 68 = I 0 68)) → (∀ j : Nat, (j : Int) < v1_5 → I3 57 j = I 56 j) → gv_X (gr_E ws0 tb 0 (yX13_reads, cX13_reads, 2, none) kX13_reads) (gv_Q cX13_reads none (gr_sh ++ ext) (fun r h' => (∃ (I' : gr_I) (J' : gr_J), h' = gr_h I' J' ∧ gr_Inv I' ∧ gr_fr [68, 69] [57] I I' ∧ gr_fj [68, 69] [57] J J' ∧ r = none ∧ ((I' 0 69 = I 0 68) ∧ ∀ j : Nat, (j : Int) < I 0 68 → I' 57 j = I 56 j) ∧ (I' 0 68 = 0) ∧ (I' 0 68 = 0)))) (10, [(0, .inr (.inr (some 0))), (1, .inl v1_5)], [], gr_sh ++ ext, gr_h I3 J4) := by
    intro n
    induction n with
    | zero => intro I3 J4 v1_5 hn; exact gz_m 0 (by omega)
    | succ n ih10 =>
      intro I3 J4 v1_5 hn hI3 FI3 FJ4 m_5 e2_5
      obtain ⟨hv1_5, e0_5, e1_5⟩ := m_5
      have f6 := (gr_b_0_68 hI3)
      have f7 := (gr_b_0_69 hI3)
      have f8 := (gr_b_0_68 hI3)
      refine gv_run 3 true hD (pc' := 15) (lv' := [(0, .inr (.inr (some 0))), (1, .inl v1_5)]) (st' := [.inl (I3 0 68), .inl v1_5]) (h' := gr_h I3 J4) (C := (((True ∧ True) ∧ True) ∧ True)) rfl ⟨⟨⟨trivial, trivial⟩, trivial⟩, trivial⟩ ?_
      refine gv_icmp_ge (t := 36) hD rfl rfl ⟨⟨by exact gz_m 1 (by omega), by exact gz_m 2 (by omega)⟩, ⟨by exact gz_m 3 (by omega), by exact gz_m 4 (by omega)⟩⟩ (fun c9 => ?_) (fun c9 => ?_)
      · refine gv_run 3 true hD (pc' := 41) (lv' := [(0, .inr (.inr (some 0))), (1, .inl v1_5)]) (st' := []) (h' := gz_up (gr_h I3 J4) 0 68 (.inl 0)) (C := (((True ∧ True) ∧ True) ∧ True)) rfl ⟨⟨⟨trivial, trivial⟩, trivial⟩, trivial⟩ ?_
        refine gr_st hI3 FI3 rfl rfl ⟨⟨by show 0 ≤ _; exact gz_m 5 (by omega), by show _ ≤ 1000; exact gz_m 6 (by omega)⟩, trivial⟩ (fun I10 hI10 FI10 q11 p11 => ?_)
        have t12 := p11 0 69 (by decide)
        have f13 := (gr_b_0_68 hI10)
        have f14 := (gr_b_0_69 hI10)
        exact gv_vret hD rfl ⟨I10, J4, rfl, hI10, FI10, FJ4, ⟨rfl, ⟨by exact gz_m 7 (by omega), fun j hj => (p11 57 j (fun q => absurd q.1 (by decide))).trans (e2_5 j (by exact gz_m 8 (by omega)))⟩, by exact gz_m 9 (by omega), by exact gz_m 10 (by omega)⟩⟩
      · have f15 := (gr_b_56 hI3 (Int.toNat v1_5))
        refine gv_run 7 true hD (pc' := 29) (lv' := [(0, .inr (.inr (some 0))), (1, .inl v1_5)]) (st' := [.inl (I3 56 (Int.toNat v1_5)), .inl v1_5, .inr (.inr (some 57))]) (h' := gr_h I3 J4) (C := (((((((True ∧ True) ∧ True) ∧ True) ∧ True) ∧ True) ∧ True) ∧ (0 ≤ v1_5 ∧ v1_5 < ((1000 : Nat) : Int)))) rfl ⟨⟨⟨⟨⟨⟨⟨trivial, trivial⟩, trivial⟩, trivial⟩, trivial⟩, trivial⟩, trivial⟩, ⟨by exact gz_m 11 (by omega), by exact gz_m 12 (by omega)⟩⟩ ?_
        have f16 := gw_nar_byte (x := ((I3 56 (Int.toNat v1_5))))
        refine gv_run 1 true hD (pc' := 30) (lv' := [(0, .inr (.inr (some 0))), (1, .inl v1_5)]) (st' := []) (h' := gz_up (gr_h I3 J4) 57 (Int.toNat v1_5) (.inl (((vp_nar .byte (Int32.ofInt ((I3 56 (Int.toNat v1_5))))).toInt)))) (C := (True ∧ (0 ≤ v1_5 ∧ v1_5 < ((1000 : Nat) : Int)))) rfl ⟨trivial, ⟨by exact gz_m 13 (by omega), by exact gz_m 14 (by omega)⟩⟩ ?_
        refine gr_st hI3 FI3 rfl rfl ⟨⟨by show (-128) ≤ _; exact gz_m 15 (by omega), by show _ ≤ 127; exact gz_m 16 (by omega)⟩, trivial⟩ (fun I17 hI17 FI17 q18 p18 => ?_)
        have t19 := p18 0 68 (fun q => absurd q.1 (by decide))
        have t20 := p18 0 69 (fun q => absurd q.1 (by decide))
        have f21 := (gr_b_0_68 hI17)
        have f22 := (gr_b_0_69 hI17)
        refine gv_run 2 true hD (pc' := 10) (lv' := [(1, .inl (v1_5 + 1)), (0, .inr (.inr (some 0)))]) (st' := []) (h' := gr_h I17 J4) (C := ((True ∧ True) ∧ True)) rfl ⟨⟨trivial, trivial⟩, trivial⟩ ?_
        refine gv_pick [1, 0] rfl ?_
        exact ih10 I17 J4 (v1_5 + 1) (by exact gz_m 17 (by omega)) hI17 FI17 FJ4 (by exact gz_m 18 (by omega)) (fun j hj => by by_cases c : j = Int.toNat v1_5; (rw [show j = (Int.toNat v1_5) from c, q18, gc_nar ⟨by exact gz_m 19 (by omega), by exact gz_m 20 (by omega)⟩]; exact FI3 56 _ rfl); exact (p18 57 j (fun h => c h.2)).trans (e2_5 j (by exact gz_m 21 (by omega))))
  have f23 := (gr_b_0_68 hI)
  refine gv_run 3 true hD (pc' := 5) (lv' := [(0, .inr (.inr (some 0)))]) (st' := [.inl (I 0 68), .inr (.inr (some 0))]) (h' := gr_h I J) (C := (((True ∧ True) ∧ True) ∧ True)) rfl ⟨⟨⟨trivial, trivial⟩, trivial⟩, trivial⟩ ?_
  refine gv_run 1 true hD (pc' := 8) (lv' := [(0, .inr (.inr (some 0)))]) (st' := []) (h' := gz_up (gr_h I J) 0 69 (.inl (I 0 68))) (C := (True ∧ True)) rfl ⟨trivial, trivial⟩ ?_
  refine gr_st hI FI rfl rfl ⟨⟨by show 0 ≤ _; exact gz_m 22 (by omega), by show _ ≤ 1000; exact gz_m 23 (by omega)⟩, trivial⟩ (fun I24 hI24 FI24 q25 p25 => ?_)
  have t26 := p25 0 68 (by decide)
  have f27 := (gr_b_0_68 hI24)
  have f28 := (gr_b_0_69 hI24)
  refine gv_run 2 true hD (pc' := 10) (lv' := [(1, .inl 0), (0, .inr (.inr (some 0)))]) (st' := []) (h' := gr_h I24 J) (C := ((True ∧ True) ∧ True)) rfl ⟨⟨trivial, trivial⟩, trivial⟩ ?_
  refine gv_pick [1, 0] rfl ?_
  exact L10 _ I24 J 0 (Nat.lt_succ_self _) hI24 FI24 FJ (by exact gz_m 24 (by omega)) (fun j hj => absurd hj (by exact gz_m 25 (by omega)))
set_option maxHeartbeats 8000000 in
set_option maxRecDepth 100000 in
theorem r_forget_p {ws0 : List Cond} {tb : String → gz_T} (hws : ∀ w ∈ gr_ws, w ∈ ws0) (htb : tb RX13 = gr_T) (ext : gz_Sh) (I : gr_I) (J : gr_J) (hI : gr_Inv I)   (x0 : 0 ≤ I 59 (Int.toNat 0) ∧ I 59 (Int.toNat 0) ≤ 8) (x1 : 0 ≤ I 59 (Int.toNat ((0 + 1))) ∧ I 59 (Int.toNat ((0 + 1))) ≤ 32) (x2 : 0 ≤ I 59 (Int.toNat (((0 + 1) + 1))) ∧ I 59 (Int.toNat (((0 + 1) + 1))) ≤ 96) (x3 : 0 ≤ I 59 (Int.toNat ((((0 + 1) + 1) + 1))) ∧ I 59 (Int.toNat ((((0 + 1) + 1) + 1))) ≤ 8) (x4 : 0 ≤ I 59 (Int.toNat (((((0 + 1) + 1) + 1) + 1))) ∧ I 59 (Int.toNat (((((0 + 1) + 1) + 1) + 1))) ≤ 64) (x5 : (-1) ≤ I 59 (Int.toNat ((((((0 + 1) + 1) + 1) + 1) + 1))) ∧ I 59 (Int.toNat ((((((0 + 1) + 1) + 1) + 1) + 1))) ≤ 7) (x6 : 0 ≤ I 59 (Int.toNat (((((((0 + 1) + 1) + 1) + 1) + 1) + 1))) ∧ I 59 (Int.toNat (((((((0 + 1) + 1) + 1) + 1) + 1) + 1))) ≤ 2000) (x7 : 0 ≤ I 59 (Int.toNat ((((((((0 + 1) + 1) + 1) + 1) + 1) + 1) + 1))) ∧ I 59 (Int.toNat ((((((((0 + 1) + 1) + 1) + 1) + 1) + 1) + 1))) ≤ 2000) (x8 : 0 ≤ I 59 (Int.toNat (((((((((0 + 1) + 1) + 1) + 1) + 1) + 1) + 1) + 1))) ∧ I 59 (Int.toNat (((((((((0 + 1) + 1) + 1) + 1) + 1) + 1) + 1) + 1))) ≤ 2000) (x9 : I 59 (Int.toNat (((((((((0 + 1) + 1) + 1) + 1) + 1) + 1) + 1) + 1))) ≤ I 0 64) (x10 : gr_HT I) (KTM_I : gr_TM I) : ∃ r h', gz_Ev ws0 tb 1 (yX13_forget, cX13_forget, 3, none) [.inr (.inr (some 0))] (gr_sh ++ ext) (gr_h I J) r (gr_sh ++ ext) h' 0 0 ∧ (∃ (I' : gr_I) (J' : gr_J), h' = gr_h I' J' ∧ gr_Inv I' ∧ gr_fr [1, 2, 3, 4, 5, 6, 42, 59, 64] [10, 13, 14, 15, 16, 17, 18, 19] I I' ∧ gr_fj [1, 2, 3, 4, 5, 6, 42, 59, 64] [10, 13, 14, 15, 16, 17, 18, 19] J J' ∧ gr_TM I' ∧ r = none ∧ ((I' 0 1 = I 59 (Int.toNat 0)) ∧ gr_FX I I' (I 0 99)) ∧ (I' 0 2 = I 59 (Int.toNat ((0 + 1)))) ∧ (I' 0 3 = I 59 (Int.toNat (((0 + 1) + 1)))) ∧ (I' 0 4 = I 59 (Int.toNat ((((0 + 1) + 1) + 1)))) ∧ (I' 0 5 = I 59 (Int.toNat (((((0 + 1) + 1) + 1) + 1)))) ∧ (I' 0 6 = I 59 (Int.toNat ((((((0 + 1) + 1) + 1) + 1) + 1)))) ∧ (I' 0 42 = I 59 (Int.toNat (((((((0 + 1) + 1) + 1) + 1) + 1) + 1)))) ∧ (I' 0 59 = I 59 (Int.toNat ((((((((0 + 1) + 1) + 1) + 1) + 1) + 1) + 1)))) ∧ (I' 0 64 = I 59 (Int.toNat (((((((((0 + 1) + 1) + 1) + 1) + 1) + 1) + 1) + 1)))) ∧ (gr_FT I I' 8) ∧ (gr_FG I I' (I 0 99))) := by
  have FI : gr_fr [1, 2, 3, 4, 5, 6, 42, 59, 64] [10, 13, 14, 15, 16, 17, 18, 19] I I := fun _ _ _ => rfl
  have FJ : gr_fj [1, 2, 3, 4, 5, 6, 42, 59, 64] [10, 13, 14, 15, 16, 17, 18, 19] J J := fun _ _ _ => rfl
  have hD : gv_D (gr_E ws0 tb 0 (yX13_forget, cX13_forget, 3, none) kX13_forget) := gq_of oX13_forget
  refine gr_ev (d := 0) (l := kX13_forget) (Po := fun r h' => (∃ (I' : gr_I) (J' : gr_J), h' = gr_h I' J' ∧ gr_Inv I' ∧ gr_fr [1, 2, 3, 4, 5, 6, 42, 59, 64] [10, 13, 14, 15, 16, 17, 18, 19] I I' ∧ gr_fj [1, 2, 3, 4, 5, 6, 42, 59, 64] [10, 13, 14, 15, 16, 17, 18, 19] J J' ∧ gr_TM I' ∧ r = none ∧ ((I' 0 1 = I 59 (Int.toNat 0)) ∧ gr_FX I I' (I 0 99)) ∧ (I' 0 2 = I 59 (Int.toNat ((0 + 1)))) ∧ (I' 0 3 = I 59 (Int.toNat (((0 + 1) + 1)))) ∧ (I' 0 4 = I 59 (Int.toNat ((((0 + 1) + 1) + 1)))) ∧ (I' 0 5 = I 59 (Int.toNat (((((0 + 1) + 1) + 1) + 1)))) ∧ (I' 0 6 = I 59 (Int.toNat ((((((0 + 1) + 1) + 1) + 1) + 1)))) ∧ (I' 0 42 = I 59 (Int.toNat (((((((0 + 1) + 1) + 1) + 1) + 1) + 1)))) ∧ (I' 0 59 = I 59 (Int.toNat ((((((((0 + 1) + 1) + 1) + 1) + 1) + 1) + 1)))) ∧ (I' 0 64 = I 59 (Int.toNat (((((((((0 + 1) + 1) + 1) + 1) + 1) + 1) + 1) + 1)))) ∧ (gr_FT I I' 8) ∧ (gr_FG I I' (I 0 99)))) htb rfl (Nat.le_of_ble_eq_true rfl) ?_
  have f1 := (gr_b_0_1 hI)
  have f2 := (gr_b_0_2 hI)
  have f3 := (gr_b_0_3 hI)
  have f4 := (gr_b_0_4 hI)
  have f5 := (gr_b_0_5 hI)
  have f6 := (gr_b_0_6 hI)
  have f7 := (gr_b_0_42 hI)
  have f8 := (gr_b_0_59 hI)
  have f9 := (gr_b_0_64 hI)
  have L121 : ∀ (n : Nat) (I10 : gr_I) (J11 : gr_J) (v1_12 : Int) (v2_12 : Int), (66 - v1_12).toNat < n → gr_Inv I10 → gr_fr [1, 2, 3, 4, 5, 6, 42, 59, 64] [10, 13, 14, 15, 16, 17, 18, 19] I I10 → gr_fj [1, 2, 3, 4, 5, 6, 42, 59, 64] [10, 13, 14, 15, 16, 17, 18, 19] J J11 → gr_TM I10 → ((9 ≤ v1_12 ∧ v1_12 ≤ 65) ∧ (0 ≤ v2_12 ∧ v2_12 ≤ 8) ∧ (v1_12 = 9 + 7 * v2_12) ∧ (I10 0 1 = I 59 (Int.toNat 0)) ∧ (I10 0 2 = I 59 (Int.toNat ((0 + 1)))) ∧ (I10 0 3 = I 59 (Int.toNat (((0 + 1) + 1)))) ∧ (I10 0 4 = I 59 (Int.toNat ((((0 + 1) + 1) + 1)))) ∧ (I10 0 5 = I 59 (Int.toNat (((((0 + 1) + 1) + 1) + 1)))) ∧ (I10 0 6 = I 59 (Int.toNat ((((((0 + 1) + 1) + 1) + 1) + 1)))) ∧ (I10 0 42 = I 59 (Int.toNat (((((((0 + 1) + 1) + 1) + 1) + 1) + 1)))) ∧ (I10 0 59 = I 59 (Int.toNat ((((((((0 + 1) + 1) + 1) + 1) + 1) + 1) + 1)))) ∧ (I10 0 64 = I 59 (Int.toNat (((((((((0 + 1) + 1) + 1) + 1) + 1) + 1) + 1) + 1))))) → (gr_FT I I10 v2_12) → (gr_FQ I I10) → gv_X (gr_E ws0 tb 0 (yX13_forget, cX13_forget, 3, none) kX13_forget) (gv_Q cX13_forget none (gr_sh ++ ext) (fun r h' => (∃ (I' : gr_I) (J' : gr_J), h' = gr_h I' J' ∧ gr_Inv I' ∧ gr_fr [1, 2, 3, 4, 5, 6, 42, 59, 64] [10, 13, 14, 15, 16, 17, 18, 19] I I' ∧ gr_fj [1, 2, 3, 4, 5, 6, 42, 59, 64] [10, 13, 14, 15, 16, 17, 18, 19] J J' ∧ gr_TM I' ∧ r = none ∧ ((I' 0 1 = I 59 (Int.toNat 0)) ∧ gr_FX I I' (I 0 99)) ∧ (I' 0 2 = I 59 (Int.toNat ((0 + 1)))) ∧ (I' 0 3 = I 59 (Int.toNat (((0 + 1) + 1)))) ∧ (I' 0 4 = I 59 (Int.toNat ((((0 + 1) + 1) + 1)))) ∧ (I' 0 5 = I 59 (Int.toNat (((((0 + 1) + 1) + 1) + 1)))) ∧ (I' 0 6 = I 59 (Int.toNat ((((((0 + 1) + 1) + 1) + 1) + 1)))) ∧ (I' 0 42 = I 59 (Int.toNat (((((((0 + 1) + 1) + 1) + 1) + 1) + 1)))) ∧ (I' 0 59 = I 59 (Int.toNat ((((((((0 + 1) + 1) + 1) + 1) + 1) + 1) + 1)))) ∧ (I' 0 64 = I 59 (Int.toNat (((((((((0 + 1) + 1) + 1) + 1) + 1) + 1) + 1) + 1)))) ∧ (gr_FT I I' 8) ∧ (gr_FG I I' (I 0 99))))) (121, [(0, .inr (.inr (some 0))), (1, .inl v1_12), (2, .inl v2_12)], [], gr_sh ++ ext, gr_h I10 J11) := by
    intro n
    induction n with
    | zero => intro I10 J11 v1_12 v2_12 hn; exact gz_m 0 (by omega)
    | succ n ih121 =>
      intro I10 J11 v1_12 v2_12 hn hI10 FI10 FJ11 KTM_I10 m_12 e10_12 e11_12
      obtain ⟨hv1_12, hv2_12, e0_12, e1_12, e2_12, e3_12, e4_12, e5_12, e6_12, e7_12, e8_12, e9_12⟩ := m_12
      have q9_12 := e0_12
      subst q9_12
      have f13 := (gr_b_0_1 hI10)
      have f14 := (gr_b_0_2 hI10)
      have f15 := (gr_b_0_3 hI10)
      have f16 := (gr_b_0_4 hI10)
      have f17 := (gr_b_0_5 hI10)
      have f18 := (gr_b_0_6 hI10)
      have f19 := (gr_b_0_42 hI10)
      have f20 := (gr_b_0_59 hI10)
      have f21 := (gr_b_0_64 hI10)
      have t22 := FI10 59 (Int.toNat (9 + 7 * v2_12)) rfl
      have t23 := FI10 59 (Int.toNat ((9 + 7 * v2_12) + 1)) rfl
      have t24 := FI10 59 (Int.toNat (((9 + 7 * v2_12) + 1) + 1)) rfl
      have t25 := FI10 59 (Int.toNat ((((9 + 7 * v2_12) + 1) + 1) + 1)) rfl
      have t26 := FI10 59 (Int.toNat (((((9 + 7 * v2_12) + 1) + 1) + 1) + 1)) rfl
      have t27 := FI10 59 (Int.toNat ((((((9 + 7 * v2_12) + 1) + 1) + 1) + 1) + 1)) rfl
      have t28 := FI10 59 (Int.toNat (((((((9 + 7 * v2_12) + 1) + 1) + 1) + 1) + 1) + 1)) rfl
      have L240 : ∀ (n : Nat) (I29 : gr_I) (J30 : gr_J) (v2_31 : Int), (1001 - v2_31).toNat < n → gr_Inv I29 → gr_fr [1, 2, 3, 4, 5, 6, 42, 59, 64] [10, 13, 14, 15, 16, 17, 18, 19] I I29 → gr_fj [1, 2, 3, 4, 5, 6, 42, 59, 64] [10, 13, 14, 15, 16, 17, 18, 19] J J30 → gr_TM I29 → ((0 ≤ v2_31 ∧ v2_31 ≤ 1000) ∧ (I29 0 1 = I 59 (Int.toNat 0)) ∧ (I29 0 2 = I 59 (Int.toNat ((0 + 1)))) ∧ (I29 0 3 = I 59 (Int.toNat (((0 + 1) + 1)))) ∧ (I29 0 4 = I 59 (Int.toNat ((((0 + 1) + 1) + 1)))) ∧ (I29 0 5 = I 59 (Int.toNat (((((0 + 1) + 1) + 1) + 1)))) ∧ (I29 0 6 = I 59 (Int.toNat ((((((0 + 1) + 1) + 1) + 1) + 1)))) ∧ (I29 0 42 = I 59 (Int.toNat (((((((0 + 1) + 1) + 1) + 1) + 1) + 1)))) ∧ (I29 0 59 = I 59 (Int.toNat ((((((((0 + 1) + 1) + 1) + 1) + 1) + 1) + 1)))) ∧ (I29 0 64 = I 59 (Int.toNat (((((((((0 + 1) + 1) + 1) + 1) + 1) + 1) + 1) + 1))))) → (gr_FT I I29 8) → (gr_FG I I29 v2_31) → (gr_FX I I29 v2_31) → (v2_31 ≤ I 0 99) → gv_X (gr_E ws0 tb 0 (yX13_forget, cX13_forget, 3, none) kX13_forget) (gv_Q cX13_forget none (gr_sh ++ ext) (fun r h' => (∃ (I' : gr_I) (J' : gr_J), h' = gr_h I' J' ∧ gr_Inv I' ∧ gr_fr [1, 2, 3, 4, 5, 6, 42, 59, 64] [10, 13, 14, 15, 16, 17, 18, 19] I I' ∧ gr_fj [1, 2, 3, 4, 5, 6, 42, 59, 64] [10, 13, 14, 15, 16, 17, 18, 19] J J' ∧ gr_TM I' ∧ r = none ∧ ((I' 0 1 = I 59 (Int.toNat 0)) ∧ gr_FX I I' (I 0 99)) ∧ (I' 0 2 = I 59 (Int.toNat ((0 + 1)))) ∧ (I' 0 3 = I 59 (Int.toNat (((0 + 1) + 1)))) ∧ (I' 0 4 = I 59 (Int.toNat ((((0 + 1) + 1) + 1)))) ∧ (I' 0 5 = I 59 (Int.toNat (((((0 + 1) + 1) + 1) + 1)))) ∧ (I' 0 6 = I 59 (Int.toNat ((((((0 + 1) + 1) + 1) + 1) + 1)))) ∧ (I' 0 42 = I 59 (Int.toNat (((((((0 + 1) + 1) + 1) + 1) + 1) + 1)))) ∧ (I' 0 59 = I 59 (Int.toNat ((((((((0 + 1) + 1) + 1) + 1) + 1) + 1) + 1)))) ∧ (I' 0 64 = I 59 (Int.toNat (((((((((0 + 1) + 1) + 1) + 1) + 1) + 1) + 1) + 1)))) ∧ (gr_FT I I' 8) ∧ (gr_FG I I' (I 0 99))))) (240, [(0, .inr (.inr (some 0))), (2, .inl v2_31)], [], gr_sh ++ ext, gr_h I29 J30) := by
        intro n
        induction n with
        | zero => intro I29 J30 v2_31 hn; exact gz_m 1 (by omega)
        | succ n ih240 =>
          intro I29 J30 v2_31 hn hI29 FI29 FJ30 KTM_I29 m_31 e9_31 e10_31 e11_31 e12_31
          clear hv1_12 hv2_12 e0_12 e1_12 e2_12 e3_12 e4_12 e5_12 e6_12 e7_12 e8_12 e9_12 f13 f14 f15 f16 f17 f18 f19 f20 f21 t22 t23 t24 t25 t26 t27 t28
          obtain ⟨hv2_31, e0_31, e1_31, e2_31, e3_31, e4_31, e5_31, e6_31, e7_31, e8_31⟩ := m_31
          have f32 := (gr_b_0_1 hI29)
          have f33 := (gr_b_0_2 hI29)
          have f34 := (gr_b_0_3 hI29)
          have f35 := (gr_b_0_4 hI29)
          have f36 := (gr_b_0_5 hI29)
          have f37 := (gr_b_0_6 hI29)
          have f38 := (gr_b_0_42 hI29)
          have f39 := (gr_b_0_59 hI29)
          have f40 := (gr_b_0_64 hI29)
          have f41 := (gr_b_0_99 hI29)
          refine gv_run 3 true hD (pc' := 245) (lv' := [(0, .inr (.inr (some 0))), (2, .inl v2_31)]) (st' := [.inl (I29 0 99), .inl v2_31]) (h' := gr_h I29 J30) (C := (((True ∧ True) ∧ True) ∧ True)) rfl ⟨⟨⟨trivial, trivial⟩, trivial⟩, trivial⟩ ?_
          refine gv_icmp_ge (t := 266) hD rfl rfl ⟨⟨by exact gz_m 2 (by omega), by exact gz_m 3 (by omega)⟩, ⟨by exact gz_m 4 (by omega), by exact gz_m 5 (by omega)⟩⟩ (fun c42 => ?_) (fun c42 => ?_)
          · exact gv_vret hD rfl ⟨I29, J30, rfl, hI29, FI29, FJ30, KTM_I29, ⟨rfl, ⟨by exact gz_m 6 (by omega), gr_FX_m e11_31 (by have e8 := e12_31; exact gz_m 7 (by omega))⟩, by exact gz_m 8 (by omega), by exact gz_m 9 (by omega), by exact gz_m 10 (by omega), by exact gz_m 11 (by omega), by exact gz_m 12 (by omega), by exact gz_m 13 (by omega), by exact gz_m 14 (by omega), by exact gz_m 15 (by omega), e9_31, (gr_FG_m e10_31 (by have e := FI29 0 99 rfl; exact gz_m 16 (by omega)))⟩⟩
          · have f43 := (gr_b_60 hI29 (Int.toNat v2_31))
            refine gv_run 6 true hD (pc' := 258) (lv' := [(0, .inr (.inr (some 0))), (2, .inl v2_31)]) (st' := [.inl (I29 60 (Int.toNat v2_31)), .inr (.inr (some 10))]) (h' := gr_h I29 J30) (C := ((((((True ∧ True) ∧ True) ∧ True) ∧ True) ∧ True) ∧ (0 ≤ v2_31 ∧ v2_31 < ((1000 : Nat) : Int)))) rfl ⟨⟨⟨⟨⟨⟨trivial, trivial⟩, trivial⟩, trivial⟩, trivial⟩, trivial⟩, ⟨by exact gz_m 17 (by omega), by exact gz_m 18 (by omega)⟩⟩ ?_
            refine gv_run 2 true hD (pc' := 260) (lv' := [(0, .inr (.inr (some 0))), (2, .inl v2_31)]) (st' := []) (h' := gz_up (gr_h I29 J30) 10 (Int.toNat ((I29 60 (Int.toNat v2_31)))) (.inl (-1))) (C := ((True ∧ True) ∧ (0 ≤ ((I29 60 (Int.toNat v2_31))) ∧ ((I29 60 (Int.toNat v2_31))) < ((96 : Nat) : Int)))) rfl ⟨⟨trivial, trivial⟩, ⟨by exact gz_m 19 (by omega), by exact gz_m 20 (by omega)⟩⟩ ?_
            refine gr_st hI29 FI29 rfl rfl ⟨⟨by show (-1) ≤ _; exact gz_m 21 (by omega), by show _ ≤ 1999; exact gz_m 22 (by omega)⟩, trivial⟩ (fun I44 hI44 FI44 q45 p45 => ?_)
            have t46 := p45 0 1 (fun q => absurd q.1 (by decide))
            have t47 := p45 0 2 (fun q => absurd q.1 (by decide))
            have t48 := p45 0 3 (fun q => absurd q.1 (by decide))
            have t49 := p45 0 4 (fun q => absurd q.1 (by decide))
            have t50 := p45 0 5 (fun q => absurd q.1 (by decide))
            have t51 := p45 0 6 (fun q => absurd q.1 (by decide))
            have t52 := p45 0 42 (fun q => absurd q.1 (by decide))
            have t53 := p45 0 59 (fun q => absurd q.1 (by decide))
            have t54 := p45 0 64 (fun q => absurd q.1 (by decide))
            have t55 := p45 59 (Int.toNat 0) (fun q => absurd q.1 (by decide))
            have t56 := p45 59 (Int.toNat ((0 + 1))) (fun q => absurd q.1 (by decide))
            have t57 := p45 59 (Int.toNat (((0 + 1) + 1))) (fun q => absurd q.1 (by decide))
            have t58 := p45 59 (Int.toNat ((((0 + 1) + 1) + 1))) (fun q => absurd q.1 (by decide))
            have t59 := p45 59 (Int.toNat (((((0 + 1) + 1) + 1) + 1))) (fun q => absurd q.1 (by decide))
            have t60 := p45 59 (Int.toNat ((((((0 + 1) + 1) + 1) + 1) + 1))) (fun q => absurd q.1 (by decide))
            have t61 := p45 59 (Int.toNat (((((((0 + 1) + 1) + 1) + 1) + 1) + 1))) (fun q => absurd q.1 (by decide))
            have t62 := p45 59 (Int.toNat ((((((((0 + 1) + 1) + 1) + 1) + 1) + 1) + 1))) (fun q => absurd q.1 (by decide))
            have t63 := p45 59 (Int.toNat (((((((((0 + 1) + 1) + 1) + 1) + 1) + 1) + 1) + 1))) (fun q => absurd q.1 (by decide))
            have f64 := (gr_b_0_1 hI44)
            have f65 := (gr_b_0_2 hI44)
            have f66 := (gr_b_0_3 hI44)
            have f67 := (gr_b_0_4 hI44)
            have f68 := (gr_b_0_5 hI44)
            have f69 := (gr_b_0_6 hI44)
            have f70 := (gr_b_0_42 hI44)
            have f71 := (gr_b_0_59 hI44)
            have f72 := (gr_b_0_64 hI44)
            have KTM_I44 := gr_TM_fr KTM_I29 (fun k => p45 52 k (fun q => absurd q.1 (by decide))) (fun k => p45 53 k (fun q => absurd q.1 (by decide))) (fun k => p45 54 k (fun q => absurd q.1 (by decide))) (p45 0 64 (fun q => absurd q.1 (by decide)))
            refine gv_run 2 true hD (pc' := 240) (lv' := [(2, .inl (v2_31 + 1)), (0, .inr (.inr (some 0)))]) (st' := []) (h' := gr_h I44 J30) (C := ((True ∧ True) ∧ True)) rfl ⟨⟨trivial, trivial⟩, trivial⟩ ?_
            refine gv_pick [1, 0] rfl ?_
            exact ih240 I44 J30 (v2_31 + 1) (by exact gz_m 23 (by omega)) hI44 FI44 FJ30 KTM_I44 (by exact gz_m 24 (by omega)) (gr_FT_fr e9_31 (fun a k h0 h1 => p45 a k (fun q => h1 q.1))) (gr_FG_nx e10_31 (by exact gz_m 25 (by omega)) p45 q45 (by rw [FI29 60 _ rfl])) (gr_FX_nx e11_31 (by exact gz_m 26 (by omega)) p45 (by rw [FI29 60 _ rfl])) (by have e8 := FI29 0 99 rfl; exact gz_m 27 (by omega))
      refine gv_run 2 true hD (pc' := 124) (lv' := [(0, .inr (.inr (some 0))), (1, .inl (9 + 7 * v2_12)), (2, .inl v2_12)]) (st' := [.inl 8, .inl v2_12]) (h' := gr_h I10 J11) (C := ((True ∧ True) ∧ True)) rfl ⟨⟨trivial, trivial⟩, trivial⟩ ?_
      refine gv_icmp_ge (t := 238) hD rfl rfl ⟨⟨by exact gz_m 28 (by omega), by exact gz_m 29 (by omega)⟩, ⟨by exact gz_m 30 (by omega), by exact gz_m 31 (by omega)⟩⟩ (fun c73 => ?_) (fun c73 => ?_)
      · refine gv_run 2 true hD (pc' := 240) (lv' := [(2, .inl 0), (0, .inr (.inr (some 0))), (1, .inl (9 + 7 * v2_12))]) (st' := []) (h' := gr_h I10 J11) (C := ((True ∧ True) ∧ True)) rfl ⟨⟨trivial, trivial⟩, trivial⟩ ?_
        refine gv_pick [1, 0] rfl ?_
        exact L240 _ I10 J11 0 (Nat.lt_succ_self _) hI10 FI10 FJ11 KTM_I10 (by exact gz_m 32 (by omega)) (by have e9 : v2_12 = 8 := (by exact gz_m 33 (by omega)); subst e9; exact e10_12) (gr_FG_0 e11_12) (gr_FX_0 e11_12) (by have e8 := (gr_b_0_99 hI); exact gz_m 34 (by omega))
      · have t74 := x10 v2_12 (by exact gz_m 35 (by omega)) (by exact gz_m 36 (by omega))
        refine gv_run 7 true hD (pc' := 140) (lv' := [(1, .inl ((9 + 7 * v2_12) + 1)), (0, .inr (.inr (some 0))), (2, .inl v2_12)]) (st' := [.inl (9 + 7 * v2_12), .inr (.inr (some 59)), .inl v2_12, .inr (.inr (some 13))]) (h' := gr_h I10 J11) (C := (((((((True ∧ True) ∧ True) ∧ True) ∧ True) ∧ True) ∧ True) ∧ True)) rfl ⟨⟨⟨⟨⟨⟨⟨trivial, trivial⟩, trivial⟩, trivial⟩, trivial⟩, trivial⟩, trivial⟩, trivial⟩ ?_
        have f75 := (gr_b_59 hI10 (Int.toNat ((9 + 7 * v2_12))))
        refine gv_run 1 true hD (pc' := 141) (lv' := [(1, .inl ((9 + 7 * v2_12) + 1)), (0, .inr (.inr (some 0))), (2, .inl v2_12)]) (st' := [.inl (I10 59 (Int.toNat ((9 + 7 * v2_12)))), .inl v2_12, .inr (.inr (some 13))]) (h' := gr_h I10 J11) (C := (True ∧ (0 ≤ (9 + 7 * v2_12) ∧ (9 + 7 * v2_12) < ((80 : Nat) : Int)))) rfl ⟨trivial, ⟨by exact gz_m 37 (by omega), by exact gz_m 38 (by omega)⟩⟩ ?_
        refine gv_run 1 true hD (pc' := 142) (lv' := [(1, .inl ((9 + 7 * v2_12) + 1)), (0, .inr (.inr (some 0))), (2, .inl v2_12)]) (st' := []) (h' := gz_up (gr_h I10 J11) 13 (Int.toNat v2_12) (.inl ((I10 59 (Int.toNat ((9 + 7 * v2_12))))))) (C := (True ∧ (0 ≤ v2_12 ∧ v2_12 < ((8 : Nat) : Int)))) rfl ⟨trivial, ⟨by exact gz_m 39 (by omega), by exact gz_m 40 (by omega)⟩⟩ ?_
        refine gr_st hI10 FI10 rfl rfl ⟨⟨by show 0 ≤ _; exact gz_m 41 (by omega), by show _ ≤ 8; exact gz_m 42 (by omega)⟩, trivial⟩ (fun I76 hI76 FI76 q77 p77 => ?_)
        have t78 := p77 0 1 (fun q => absurd q.1 (by decide))
        have t79 := p77 0 2 (fun q => absurd q.1 (by decide))
        have t80 := p77 0 3 (fun q => absurd q.1 (by decide))
        have t81 := p77 0 4 (fun q => absurd q.1 (by decide))
        have t82 := p77 0 5 (fun q => absurd q.1 (by decide))
        have t83 := p77 0 6 (fun q => absurd q.1 (by decide))
        have t84 := p77 0 42 (fun q => absurd q.1 (by decide))
        have t85 := p77 0 59 (fun q => absurd q.1 (by decide))
        have t86 := p77 0 64 (fun q => absurd q.1 (by decide))
        have t87 := p77 59 (Int.toNat 0) (fun q => absurd q.1 (by decide))
        have t88 := p77 59 (Int.toNat ((0 + 1))) (fun q => absurd q.1 (by decide))
        have t89 := p77 59 (Int.toNat (((0 + 1) + 1))) (fun q => absurd q.1 (by decide))
        have t90 := p77 59 (Int.toNat ((((0 + 1) + 1) + 1))) (fun q => absurd q.1 (by decide))
        have t91 := p77 59 (Int.toNat (((((0 + 1) + 1) + 1) + 1))) (fun q => absurd q.1 (by decide))
        have t92 := p77 59 (Int.toNat ((((((0 + 1) + 1) + 1) + 1) + 1))) (fun q => absurd q.1 (by decide))
        have t93 := p77 59 (Int.toNat (((((((0 + 1) + 1) + 1) + 1) + 1) + 1))) (fun q => absurd q.1 (by decide))
        have t94 := p77 59 (Int.toNat ((((((((0 + 1) + 1) + 1) + 1) + 1) + 1) + 1))) (fun q => absurd q.1 (by decide))
        have t95 := p77 59 (Int.toNat (((((((((0 + 1) + 1) + 1) + 1) + 1) + 1) + 1) + 1))) (fun q => absurd q.1 (by decide))
        have f96 := (gr_b_0_1 hI76)
        have f97 := (gr_b_0_2 hI76)
        have f98 := (gr_b_0_3 hI76)
        have f99 := (gr_b_0_4 hI76)
        have f100 := (gr_b_0_5 hI76)
        have f101 := (gr_b_0_6 hI76)
        have f102 := (gr_b_0_42 hI76)
        have f103 := (gr_b_0_59 hI76)
        have f104 := (gr_b_0_64 hI76)
        have KTM_I76 := gr_TM_fr KTM_I10 (fun k => p77 52 k (fun q => absurd q.1 (by decide))) (fun k => p77 53 k (fun q => absurd q.1 (by decide))) (fun k => p77 54 k (fun q => absurd q.1 (by decide))) (p77 0 64 (fun q => absurd q.1 (by decide)))
        have t105 := FI76 59 (Int.toNat (9 + 7 * v2_12)) rfl
        have t106 := FI76 59 (Int.toNat ((9 + 7 * v2_12) + 1)) rfl
        have t107 := FI76 59 (Int.toNat (((9 + 7 * v2_12) + 1) + 1)) rfl
        have t108 := FI76 59 (Int.toNat ((((9 + 7 * v2_12) + 1) + 1) + 1)) rfl
        have t109 := FI76 59 (Int.toNat (((((9 + 7 * v2_12) + 1) + 1) + 1) + 1)) rfl
        have t110 := FI76 59 (Int.toNat ((((((9 + 7 * v2_12) + 1) + 1) + 1) + 1) + 1)) rfl
        have t111 := FI76 59 (Int.toNat (((((((9 + 7 * v2_12) + 1) + 1) + 1) + 1) + 1) + 1)) rfl
        refine gv_run 7 true hD (pc' := 155) (lv' := [(1, .inl (((9 + 7 * v2_12) + 1) + 1)), (0, .inr (.inr (some 0))), (2, .inl v2_12)]) (st' := [.inl ((9 + 7 * v2_12) + 1), .inr (.inr (some 59)), .inl v2_12, .inr (.inr (some 14))]) (h' := gr_h I76 J11) (C := (((((((True ∧ True) ∧ True) ∧ True) ∧ True) ∧ True) ∧ True) ∧ True)) rfl ⟨⟨⟨⟨⟨⟨⟨trivial, trivial⟩, trivial⟩, trivial⟩, trivial⟩, trivial⟩, trivial⟩, trivial⟩ ?_
        have f112 := (gr_b_59 hI76 (Int.toNat (((9 + 7 * v2_12) + 1))))
        refine gv_run 1 true hD (pc' := 156) (lv' := [(1, .inl (((9 + 7 * v2_12) + 1) + 1)), (0, .inr (.inr (some 0))), (2, .inl v2_12)]) (st' := [.inl (I76 59 (Int.toNat (((9 + 7 * v2_12) + 1)))), .inl v2_12, .inr (.inr (some 14))]) (h' := gr_h I76 J11) (C := (True ∧ (0 ≤ (((9 + 7 * v2_12) + 1)) ∧ (((9 + 7 * v2_12) + 1)) < ((80 : Nat) : Int)))) rfl ⟨trivial, ⟨by exact gz_m 43 (by omega), by exact gz_m 44 (by omega)⟩⟩ ?_
        refine gv_run 1 true hD (pc' := 157) (lv' := [(1, .inl (((9 + 7 * v2_12) + 1) + 1)), (0, .inr (.inr (some 0))), (2, .inl v2_12)]) (st' := []) (h' := gz_up (gr_h I76 J11) 14 (Int.toNat v2_12) (.inl ((I76 59 (Int.toNat (((9 + 7 * v2_12) + 1))))))) (C := (True ∧ (0 ≤ v2_12 ∧ v2_12 < ((8 : Nat) : Int)))) rfl ⟨trivial, ⟨by exact gz_m 45 (by omega), by exact gz_m 46 (by omega)⟩⟩ ?_
        refine gr_st hI76 FI76 rfl rfl ⟨⟨by show 0 ≤ _; exact gz_m 47 (by omega), by show _ ≤ 48; exact gz_m 48 (by omega)⟩, trivial⟩ (fun I113 hI113 FI113 q114 p114 => ?_)
        have t115 := p114 0 1 (fun q => absurd q.1 (by decide))
        have t116 := p114 0 2 (fun q => absurd q.1 (by decide))
        have t117 := p114 0 3 (fun q => absurd q.1 (by decide))
        have t118 := p114 0 4 (fun q => absurd q.1 (by decide))
        have t119 := p114 0 5 (fun q => absurd q.1 (by decide))
        have t120 := p114 0 6 (fun q => absurd q.1 (by decide))
        have t121 := p114 0 42 (fun q => absurd q.1 (by decide))
        have t122 := p114 0 59 (fun q => absurd q.1 (by decide))
        have t123 := p114 0 64 (fun q => absurd q.1 (by decide))
        have t124 := p114 59 (Int.toNat 0) (fun q => absurd q.1 (by decide))
        have t125 := p114 59 (Int.toNat ((0 + 1))) (fun q => absurd q.1 (by decide))
        have t126 := p114 59 (Int.toNat (((0 + 1) + 1))) (fun q => absurd q.1 (by decide))
        have t127 := p114 59 (Int.toNat ((((0 + 1) + 1) + 1))) (fun q => absurd q.1 (by decide))
        have t128 := p114 59 (Int.toNat (((((0 + 1) + 1) + 1) + 1))) (fun q => absurd q.1 (by decide))
        have t129 := p114 59 (Int.toNat ((((((0 + 1) + 1) + 1) + 1) + 1))) (fun q => absurd q.1 (by decide))
        have t130 := p114 59 (Int.toNat (((((((0 + 1) + 1) + 1) + 1) + 1) + 1))) (fun q => absurd q.1 (by decide))
        have t131 := p114 59 (Int.toNat ((((((((0 + 1) + 1) + 1) + 1) + 1) + 1) + 1))) (fun q => absurd q.1 (by decide))
        have t132 := p114 59 (Int.toNat (((((((((0 + 1) + 1) + 1) + 1) + 1) + 1) + 1) + 1))) (fun q => absurd q.1 (by decide))
        have f133 := (gr_b_0_1 hI113)
        have f134 := (gr_b_0_2 hI113)
        have f135 := (gr_b_0_3 hI113)
        have f136 := (gr_b_0_4 hI113)
        have f137 := (gr_b_0_5 hI113)
        have f138 := (gr_b_0_6 hI113)
        have f139 := (gr_b_0_42 hI113)
        have f140 := (gr_b_0_59 hI113)
        have f141 := (gr_b_0_64 hI113)
        have KTM_I113 := gr_TM_fr KTM_I76 (fun k => p114 52 k (fun q => absurd q.1 (by decide))) (fun k => p114 53 k (fun q => absurd q.1 (by decide))) (fun k => p114 54 k (fun q => absurd q.1 (by decide))) (p114 0 64 (fun q => absurd q.1 (by decide)))
        have t142 := FI113 59 (Int.toNat (9 + 7 * v2_12)) rfl
        have t143 := FI113 59 (Int.toNat ((9 + 7 * v2_12) + 1)) rfl
        have t144 := FI113 59 (Int.toNat (((9 + 7 * v2_12) + 1) + 1)) rfl
        have t145 := FI113 59 (Int.toNat ((((9 + 7 * v2_12) + 1) + 1) + 1)) rfl
        have t146 := FI113 59 (Int.toNat (((((9 + 7 * v2_12) + 1) + 1) + 1) + 1)) rfl
        have t147 := FI113 59 (Int.toNat ((((((9 + 7 * v2_12) + 1) + 1) + 1) + 1) + 1)) rfl
        have t148 := FI113 59 (Int.toNat (((((((9 + 7 * v2_12) + 1) + 1) + 1) + 1) + 1) + 1)) rfl
        refine gv_run 7 true hD (pc' := 170) (lv' := [(1, .inl ((((9 + 7 * v2_12) + 1) + 1) + 1)), (0, .inr (.inr (some 0))), (2, .inl v2_12)]) (st' := [.inl (((9 + 7 * v2_12) + 1) + 1), .inr (.inr (some 59)), .inl v2_12, .inr (.inr (some 15))]) (h' := gr_h I113 J11) (C := (((((((True ∧ True) ∧ True) ∧ True) ∧ True) ∧ True) ∧ True) ∧ True)) rfl ⟨⟨⟨⟨⟨⟨⟨trivial, trivial⟩, trivial⟩, trivial⟩, trivial⟩, trivial⟩, trivial⟩, trivial⟩ ?_
        have f149 := (gr_b_59 hI113 (Int.toNat ((((9 + 7 * v2_12) + 1) + 1))))
        refine gv_run 1 true hD (pc' := 171) (lv' := [(1, .inl ((((9 + 7 * v2_12) + 1) + 1) + 1)), (0, .inr (.inr (some 0))), (2, .inl v2_12)]) (st' := [.inl (I113 59 (Int.toNat ((((9 + 7 * v2_12) + 1) + 1)))), .inl v2_12, .inr (.inr (some 15))]) (h' := gr_h I113 J11) (C := (True ∧ (0 ≤ ((((9 + 7 * v2_12) + 1) + 1)) ∧ ((((9 + 7 * v2_12) + 1) + 1)) < ((80 : Nat) : Int)))) rfl ⟨trivial, ⟨by exact gz_m 49 (by omega), by exact gz_m 50 (by omega)⟩⟩ ?_
        refine gv_run 1 true hD (pc' := 172) (lv' := [(1, .inl ((((9 + 7 * v2_12) + 1) + 1) + 1)), (0, .inr (.inr (some 0))), (2, .inl v2_12)]) (st' := []) (h' := gz_up (gr_h I113 J11) 15 (Int.toNat v2_12) (.inl ((I113 59 (Int.toNat ((((9 + 7 * v2_12) + 1) + 1))))))) (C := (True ∧ (0 ≤ v2_12 ∧ v2_12 < ((8 : Nat) : Int)))) rfl ⟨trivial, ⟨by exact gz_m 51 (by omega), by exact gz_m 52 (by omega)⟩⟩ ?_
        refine gr_st hI113 FI113 rfl rfl ⟨⟨by show 0 ≤ _; exact gz_m 53 (by omega), by show _ ≤ 16; exact gz_m 54 (by omega)⟩, trivial⟩ (fun I150 hI150 FI150 q151 p151 => ?_)
        have t152 := p151 0 1 (fun q => absurd q.1 (by decide))
        have t153 := p151 0 2 (fun q => absurd q.1 (by decide))
        have t154 := p151 0 3 (fun q => absurd q.1 (by decide))
        have t155 := p151 0 4 (fun q => absurd q.1 (by decide))
        have t156 := p151 0 5 (fun q => absurd q.1 (by decide))
        have t157 := p151 0 6 (fun q => absurd q.1 (by decide))
        have t158 := p151 0 42 (fun q => absurd q.1 (by decide))
        have t159 := p151 0 59 (fun q => absurd q.1 (by decide))
        have t160 := p151 0 64 (fun q => absurd q.1 (by decide))
        have t161 := p151 59 (Int.toNat 0) (fun q => absurd q.1 (by decide))
        have t162 := p151 59 (Int.toNat ((0 + 1))) (fun q => absurd q.1 (by decide))
        have t163 := p151 59 (Int.toNat (((0 + 1) + 1))) (fun q => absurd q.1 (by decide))
        have t164 := p151 59 (Int.toNat ((((0 + 1) + 1) + 1))) (fun q => absurd q.1 (by decide))
        have t165 := p151 59 (Int.toNat (((((0 + 1) + 1) + 1) + 1))) (fun q => absurd q.1 (by decide))
        have t166 := p151 59 (Int.toNat ((((((0 + 1) + 1) + 1) + 1) + 1))) (fun q => absurd q.1 (by decide))
        have t167 := p151 59 (Int.toNat (((((((0 + 1) + 1) + 1) + 1) + 1) + 1))) (fun q => absurd q.1 (by decide))
        have t168 := p151 59 (Int.toNat ((((((((0 + 1) + 1) + 1) + 1) + 1) + 1) + 1))) (fun q => absurd q.1 (by decide))
        have t169 := p151 59 (Int.toNat (((((((((0 + 1) + 1) + 1) + 1) + 1) + 1) + 1) + 1))) (fun q => absurd q.1 (by decide))
        have f170 := (gr_b_0_1 hI150)
        have f171 := (gr_b_0_2 hI150)
        have f172 := (gr_b_0_3 hI150)
        have f173 := (gr_b_0_4 hI150)
        have f174 := (gr_b_0_5 hI150)
        have f175 := (gr_b_0_6 hI150)
        have f176 := (gr_b_0_42 hI150)
        have f177 := (gr_b_0_59 hI150)
        have f178 := (gr_b_0_64 hI150)
        have KTM_I150 := gr_TM_fr KTM_I113 (fun k => p151 52 k (fun q => absurd q.1 (by decide))) (fun k => p151 53 k (fun q => absurd q.1 (by decide))) (fun k => p151 54 k (fun q => absurd q.1 (by decide))) (p151 0 64 (fun q => absurd q.1 (by decide)))
        have t179 := FI150 59 (Int.toNat (9 + 7 * v2_12)) rfl
        have t180 := FI150 59 (Int.toNat ((9 + 7 * v2_12) + 1)) rfl
        have t181 := FI150 59 (Int.toNat (((9 + 7 * v2_12) + 1) + 1)) rfl
        have t182 := FI150 59 (Int.toNat ((((9 + 7 * v2_12) + 1) + 1) + 1)) rfl
        have t183 := FI150 59 (Int.toNat (((((9 + 7 * v2_12) + 1) + 1) + 1) + 1)) rfl
        have t184 := FI150 59 (Int.toNat ((((((9 + 7 * v2_12) + 1) + 1) + 1) + 1) + 1)) rfl
        have t185 := FI150 59 (Int.toNat (((((((9 + 7 * v2_12) + 1) + 1) + 1) + 1) + 1) + 1)) rfl
        refine gv_run 7 true hD (pc' := 185) (lv' := [(1, .inl (((((9 + 7 * v2_12) + 1) + 1) + 1) + 1)), (0, .inr (.inr (some 0))), (2, .inl v2_12)]) (st' := [.inl ((((9 + 7 * v2_12) + 1) + 1) + 1), .inr (.inr (some 59)), .inl v2_12, .inr (.inr (some 16))]) (h' := gr_h I150 J11) (C := (((((((True ∧ True) ∧ True) ∧ True) ∧ True) ∧ True) ∧ True) ∧ True)) rfl ⟨⟨⟨⟨⟨⟨⟨trivial, trivial⟩, trivial⟩, trivial⟩, trivial⟩, trivial⟩, trivial⟩, trivial⟩ ?_
        have f186 := (gr_b_59 hI150 (Int.toNat (((((9 + 7 * v2_12) + 1) + 1) + 1))))
        refine gv_run 1 true hD (pc' := 186) (lv' := [(1, .inl (((((9 + 7 * v2_12) + 1) + 1) + 1) + 1)), (0, .inr (.inr (some 0))), (2, .inl v2_12)]) (st' := [.inl (I150 59 (Int.toNat (((((9 + 7 * v2_12) + 1) + 1) + 1)))), .inl v2_12, .inr (.inr (some 16))]) (h' := gr_h I150 J11) (C := (True ∧ (0 ≤ (((((9 + 7 * v2_12) + 1) + 1) + 1)) ∧ (((((9 + 7 * v2_12) + 1) + 1) + 1)) < ((80 : Nat) : Int)))) rfl ⟨trivial, ⟨by exact gz_m 55 (by omega), by exact gz_m 56 (by omega)⟩⟩ ?_
        refine gv_run 1 true hD (pc' := 187) (lv' := [(1, .inl (((((9 + 7 * v2_12) + 1) + 1) + 1) + 1)), (0, .inr (.inr (some 0))), (2, .inl v2_12)]) (st' := []) (h' := gz_up (gr_h I150 J11) 16 (Int.toNat v2_12) (.inl ((I150 59 (Int.toNat (((((9 + 7 * v2_12) + 1) + 1) + 1))))))) (C := (True ∧ (0 ≤ v2_12 ∧ v2_12 < ((8 : Nat) : Int)))) rfl ⟨trivial, ⟨by exact gz_m 57 (by omega), by exact gz_m 58 (by omega)⟩⟩ ?_
        refine gr_st hI150 FI150 rfl rfl ⟨⟨by show 0 ≤ _; exact gz_m 59 (by omega), by show _ ≤ 24; exact gz_m 60 (by omega)⟩, trivial⟩ (fun I187 hI187 FI187 q188 p188 => ?_)
        have t189 := p188 0 1 (fun q => absurd q.1 (by decide))
        have t190 := p188 0 2 (fun q => absurd q.1 (by decide))
        have t191 := p188 0 3 (fun q => absurd q.1 (by decide))
        have t192 := p188 0 4 (fun q => absurd q.1 (by decide))
        have t193 := p188 0 5 (fun q => absurd q.1 (by decide))
        have t194 := p188 0 6 (fun q => absurd q.1 (by decide))
        have t195 := p188 0 42 (fun q => absurd q.1 (by decide))
        have t196 := p188 0 59 (fun q => absurd q.1 (by decide))
        have t197 := p188 0 64 (fun q => absurd q.1 (by decide))
        have t198 := p188 59 (Int.toNat 0) (fun q => absurd q.1 (by decide))
        have t199 := p188 59 (Int.toNat ((0 + 1))) (fun q => absurd q.1 (by decide))
        have t200 := p188 59 (Int.toNat (((0 + 1) + 1))) (fun q => absurd q.1 (by decide))
        have t201 := p188 59 (Int.toNat ((((0 + 1) + 1) + 1))) (fun q => absurd q.1 (by decide))
        have t202 := p188 59 (Int.toNat (((((0 + 1) + 1) + 1) + 1))) (fun q => absurd q.1 (by decide))
        have t203 := p188 59 (Int.toNat ((((((0 + 1) + 1) + 1) + 1) + 1))) (fun q => absurd q.1 (by decide))
        have t204 := p188 59 (Int.toNat (((((((0 + 1) + 1) + 1) + 1) + 1) + 1))) (fun q => absurd q.1 (by decide))
        have t205 := p188 59 (Int.toNat ((((((((0 + 1) + 1) + 1) + 1) + 1) + 1) + 1))) (fun q => absurd q.1 (by decide))
        have t206 := p188 59 (Int.toNat (((((((((0 + 1) + 1) + 1) + 1) + 1) + 1) + 1) + 1))) (fun q => absurd q.1 (by decide))
        have f207 := (gr_b_0_1 hI187)
        have f208 := (gr_b_0_2 hI187)
        have f209 := (gr_b_0_3 hI187)
        have f210 := (gr_b_0_4 hI187)
        have f211 := (gr_b_0_5 hI187)
        have f212 := (gr_b_0_6 hI187)
        have f213 := (gr_b_0_42 hI187)
        have f214 := (gr_b_0_59 hI187)
        have f215 := (gr_b_0_64 hI187)
        have KTM_I187 := gr_TM_fr KTM_I150 (fun k => p188 52 k (fun q => absurd q.1 (by decide))) (fun k => p188 53 k (fun q => absurd q.1 (by decide))) (fun k => p188 54 k (fun q => absurd q.1 (by decide))) (p188 0 64 (fun q => absurd q.1 (by decide)))
        have t216 := FI187 59 (Int.toNat (9 + 7 * v2_12)) rfl
        have t217 := FI187 59 (Int.toNat ((9 + 7 * v2_12) + 1)) rfl
        have t218 := FI187 59 (Int.toNat (((9 + 7 * v2_12) + 1) + 1)) rfl
        have t219 := FI187 59 (Int.toNat ((((9 + 7 * v2_12) + 1) + 1) + 1)) rfl
        have t220 := FI187 59 (Int.toNat (((((9 + 7 * v2_12) + 1) + 1) + 1) + 1)) rfl
        have t221 := FI187 59 (Int.toNat ((((((9 + 7 * v2_12) + 1) + 1) + 1) + 1) + 1)) rfl
        have t222 := FI187 59 (Int.toNat (((((((9 + 7 * v2_12) + 1) + 1) + 1) + 1) + 1) + 1)) rfl
        refine gv_run 7 true hD (pc' := 200) (lv' := [(1, .inl ((((((9 + 7 * v2_12) + 1) + 1) + 1) + 1) + 1)), (0, .inr (.inr (some 0))), (2, .inl v2_12)]) (st' := [.inl (((((9 + 7 * v2_12) + 1) + 1) + 1) + 1), .inr (.inr (some 59)), .inl v2_12, .inr (.inr (some 17))]) (h' := gr_h I187 J11) (C := (((((((True ∧ True) ∧ True) ∧ True) ∧ True) ∧ True) ∧ True) ∧ True)) rfl ⟨⟨⟨⟨⟨⟨⟨trivial, trivial⟩, trivial⟩, trivial⟩, trivial⟩, trivial⟩, trivial⟩, trivial⟩ ?_
        have f223 := (gr_b_59 hI187 (Int.toNat ((((((9 + 7 * v2_12) + 1) + 1) + 1) + 1))))
        refine gv_run 1 true hD (pc' := 201) (lv' := [(1, .inl ((((((9 + 7 * v2_12) + 1) + 1) + 1) + 1) + 1)), (0, .inr (.inr (some 0))), (2, .inl v2_12)]) (st' := [.inl (I187 59 (Int.toNat ((((((9 + 7 * v2_12) + 1) + 1) + 1) + 1)))), .inl v2_12, .inr (.inr (some 17))]) (h' := gr_h I187 J11) (C := (True ∧ (0 ≤ ((((((9 + 7 * v2_12) + 1) + 1) + 1) + 1)) ∧ ((((((9 + 7 * v2_12) + 1) + 1) + 1) + 1)) < ((80 : Nat) : Int)))) rfl ⟨trivial, ⟨by exact gz_m 61 (by omega), by exact gz_m 62 (by omega)⟩⟩ ?_
        refine gv_run 1 true hD (pc' := 202) (lv' := [(1, .inl ((((((9 + 7 * v2_12) + 1) + 1) + 1) + 1) + 1)), (0, .inr (.inr (some 0))), (2, .inl v2_12)]) (st' := []) (h' := gz_up (gr_h I187 J11) 17 (Int.toNat v2_12) (.inl ((I187 59 (Int.toNat ((((((9 + 7 * v2_12) + 1) + 1) + 1) + 1))))))) (C := (True ∧ (0 ≤ v2_12 ∧ v2_12 < ((8 : Nat) : Int)))) rfl ⟨trivial, ⟨by exact gz_m 63 (by omega), by exact gz_m 64 (by omega)⟩⟩ ?_
        refine gr_st hI187 FI187 rfl rfl ⟨⟨by show 0 ≤ _; exact gz_m 65 (by omega), by show _ ≤ 24; exact gz_m 66 (by omega)⟩, trivial⟩ (fun I224 hI224 FI224 q225 p225 => ?_)
        have t226 := p225 0 1 (fun q => absurd q.1 (by decide))
        have t227 := p225 0 2 (fun q => absurd q.1 (by decide))
        have t228 := p225 0 3 (fun q => absurd q.1 (by decide))
        have t229 := p225 0 4 (fun q => absurd q.1 (by decide))
        have t230 := p225 0 5 (fun q => absurd q.1 (by decide))
        have t231 := p225 0 6 (fun q => absurd q.1 (by decide))
        have t232 := p225 0 42 (fun q => absurd q.1 (by decide))
        have t233 := p225 0 59 (fun q => absurd q.1 (by decide))
        have t234 := p225 0 64 (fun q => absurd q.1 (by decide))
        have t235 := p225 59 (Int.toNat 0) (fun q => absurd q.1 (by decide))
        have t236 := p225 59 (Int.toNat ((0 + 1))) (fun q => absurd q.1 (by decide))
        have t237 := p225 59 (Int.toNat (((0 + 1) + 1))) (fun q => absurd q.1 (by decide))
        have t238 := p225 59 (Int.toNat ((((0 + 1) + 1) + 1))) (fun q => absurd q.1 (by decide))
        have t239 := p225 59 (Int.toNat (((((0 + 1) + 1) + 1) + 1))) (fun q => absurd q.1 (by decide))
        have t240 := p225 59 (Int.toNat ((((((0 + 1) + 1) + 1) + 1) + 1))) (fun q => absurd q.1 (by decide))
        have t241 := p225 59 (Int.toNat (((((((0 + 1) + 1) + 1) + 1) + 1) + 1))) (fun q => absurd q.1 (by decide))
        have t242 := p225 59 (Int.toNat ((((((((0 + 1) + 1) + 1) + 1) + 1) + 1) + 1))) (fun q => absurd q.1 (by decide))
        have t243 := p225 59 (Int.toNat (((((((((0 + 1) + 1) + 1) + 1) + 1) + 1) + 1) + 1))) (fun q => absurd q.1 (by decide))
        have f244 := (gr_b_0_1 hI224)
        have f245 := (gr_b_0_2 hI224)
        have f246 := (gr_b_0_3 hI224)
        have f247 := (gr_b_0_4 hI224)
        have f248 := (gr_b_0_5 hI224)
        have f249 := (gr_b_0_6 hI224)
        have f250 := (gr_b_0_42 hI224)
        have f251 := (gr_b_0_59 hI224)
        have f252 := (gr_b_0_64 hI224)
        have KTM_I224 := gr_TM_fr KTM_I187 (fun k => p225 52 k (fun q => absurd q.1 (by decide))) (fun k => p225 53 k (fun q => absurd q.1 (by decide))) (fun k => p225 54 k (fun q => absurd q.1 (by decide))) (p225 0 64 (fun q => absurd q.1 (by decide)))
        have t253 := FI224 59 (Int.toNat (9 + 7 * v2_12)) rfl
        have t254 := FI224 59 (Int.toNat ((9 + 7 * v2_12) + 1)) rfl
        have t255 := FI224 59 (Int.toNat (((9 + 7 * v2_12) + 1) + 1)) rfl
        have t256 := FI224 59 (Int.toNat ((((9 + 7 * v2_12) + 1) + 1) + 1)) rfl
        have t257 := FI224 59 (Int.toNat (((((9 + 7 * v2_12) + 1) + 1) + 1) + 1)) rfl
        have t258 := FI224 59 (Int.toNat ((((((9 + 7 * v2_12) + 1) + 1) + 1) + 1) + 1)) rfl
        have t259 := FI224 59 (Int.toNat (((((((9 + 7 * v2_12) + 1) + 1) + 1) + 1) + 1) + 1)) rfl
        refine gv_run 7 true hD (pc' := 215) (lv' := [(1, .inl (((((((9 + 7 * v2_12) + 1) + 1) + 1) + 1) + 1) + 1)), (0, .inr (.inr (some 0))), (2, .inl v2_12)]) (st' := [.inl ((((((9 + 7 * v2_12) + 1) + 1) + 1) + 1) + 1), .inr (.inr (some 59)), .inl v2_12, .inr (.inr (some 18))]) (h' := gr_h I224 J11) (C := (((((((True ∧ True) ∧ True) ∧ True) ∧ True) ∧ True) ∧ True) ∧ True)) rfl ⟨⟨⟨⟨⟨⟨⟨trivial, trivial⟩, trivial⟩, trivial⟩, trivial⟩, trivial⟩, trivial⟩, trivial⟩ ?_
        have f260 := (gr_b_59 hI224 (Int.toNat (((((((9 + 7 * v2_12) + 1) + 1) + 1) + 1) + 1))))
        refine gv_run 1 true hD (pc' := 216) (lv' := [(1, .inl (((((((9 + 7 * v2_12) + 1) + 1) + 1) + 1) + 1) + 1)), (0, .inr (.inr (some 0))), (2, .inl v2_12)]) (st' := [.inl (I224 59 (Int.toNat (((((((9 + 7 * v2_12) + 1) + 1) + 1) + 1) + 1)))), .inl v2_12, .inr (.inr (some 18))]) (h' := gr_h I224 J11) (C := (True ∧ (0 ≤ (((((((9 + 7 * v2_12) + 1) + 1) + 1) + 1) + 1)) ∧ (((((((9 + 7 * v2_12) + 1) + 1) + 1) + 1) + 1)) < ((80 : Nat) : Int)))) rfl ⟨trivial, ⟨by exact gz_m 67 (by omega), by exact gz_m 68 (by omega)⟩⟩ ?_
        refine gv_run 1 true hD (pc' := 217) (lv' := [(1, .inl (((((((9 + 7 * v2_12) + 1) + 1) + 1) + 1) + 1) + 1)), (0, .inr (.inr (some 0))), (2, .inl v2_12)]) (st' := []) (h' := gz_up (gr_h I224 J11) 18 (Int.toNat v2_12) (.inl ((I224 59 (Int.toNat (((((((9 + 7 * v2_12) + 1) + 1) + 1) + 1) + 1))))))) (C := (True ∧ (0 ≤ v2_12 ∧ v2_12 < ((8 : Nat) : Int)))) rfl ⟨trivial, ⟨by exact gz_m 69 (by omega), by exact gz_m 70 (by omega)⟩⟩ ?_
        refine gr_st hI224 FI224 rfl rfl ⟨⟨by show 0 ≤ _; exact gz_m 71 (by omega), by show _ ≤ 64; exact gz_m 72 (by omega)⟩, trivial⟩ (fun I261 hI261 FI261 q262 p262 => ?_)
        have t263 := p262 0 1 (fun q => absurd q.1 (by decide))
        have t264 := p262 0 2 (fun q => absurd q.1 (by decide))
        have t265 := p262 0 3 (fun q => absurd q.1 (by decide))
        have t266 := p262 0 4 (fun q => absurd q.1 (by decide))
        have t267 := p262 0 5 (fun q => absurd q.1 (by decide))
        have t268 := p262 0 6 (fun q => absurd q.1 (by decide))
        have t269 := p262 0 42 (fun q => absurd q.1 (by decide))
        have t270 := p262 0 59 (fun q => absurd q.1 (by decide))
        have t271 := p262 0 64 (fun q => absurd q.1 (by decide))
        have t272 := p262 59 (Int.toNat 0) (fun q => absurd q.1 (by decide))
        have t273 := p262 59 (Int.toNat ((0 + 1))) (fun q => absurd q.1 (by decide))
        have t274 := p262 59 (Int.toNat (((0 + 1) + 1))) (fun q => absurd q.1 (by decide))
        have t275 := p262 59 (Int.toNat ((((0 + 1) + 1) + 1))) (fun q => absurd q.1 (by decide))
        have t276 := p262 59 (Int.toNat (((((0 + 1) + 1) + 1) + 1))) (fun q => absurd q.1 (by decide))
        have t277 := p262 59 (Int.toNat ((((((0 + 1) + 1) + 1) + 1) + 1))) (fun q => absurd q.1 (by decide))
        have t278 := p262 59 (Int.toNat (((((((0 + 1) + 1) + 1) + 1) + 1) + 1))) (fun q => absurd q.1 (by decide))
        have t279 := p262 59 (Int.toNat ((((((((0 + 1) + 1) + 1) + 1) + 1) + 1) + 1))) (fun q => absurd q.1 (by decide))
        have t280 := p262 59 (Int.toNat (((((((((0 + 1) + 1) + 1) + 1) + 1) + 1) + 1) + 1))) (fun q => absurd q.1 (by decide))
        have f281 := (gr_b_0_1 hI261)
        have f282 := (gr_b_0_2 hI261)
        have f283 := (gr_b_0_3 hI261)
        have f284 := (gr_b_0_4 hI261)
        have f285 := (gr_b_0_5 hI261)
        have f286 := (gr_b_0_6 hI261)
        have f287 := (gr_b_0_42 hI261)
        have f288 := (gr_b_0_59 hI261)
        have f289 := (gr_b_0_64 hI261)
        have KTM_I261 := gr_TM_fr KTM_I224 (fun k => p262 52 k (fun q => absurd q.1 (by decide))) (fun k => p262 53 k (fun q => absurd q.1 (by decide))) (fun k => p262 54 k (fun q => absurd q.1 (by decide))) (p262 0 64 (fun q => absurd q.1 (by decide)))
        have t290 := FI261 59 (Int.toNat (9 + 7 * v2_12)) rfl
        have t291 := FI261 59 (Int.toNat ((9 + 7 * v2_12) + 1)) rfl
        have t292 := FI261 59 (Int.toNat (((9 + 7 * v2_12) + 1) + 1)) rfl
        have t293 := FI261 59 (Int.toNat ((((9 + 7 * v2_12) + 1) + 1) + 1)) rfl
        have t294 := FI261 59 (Int.toNat (((((9 + 7 * v2_12) + 1) + 1) + 1) + 1)) rfl
        have t295 := FI261 59 (Int.toNat ((((((9 + 7 * v2_12) + 1) + 1) + 1) + 1) + 1)) rfl
        have t296 := FI261 59 (Int.toNat (((((((9 + 7 * v2_12) + 1) + 1) + 1) + 1) + 1) + 1)) rfl
        refine gv_run 7 true hD (pc' := 230) (lv' := [(1, .inl ((((((((9 + 7 * v2_12) + 1) + 1) + 1) + 1) + 1) + 1) + 1)), (0, .inr (.inr (some 0))), (2, .inl v2_12)]) (st' := [.inl (((((((9 + 7 * v2_12) + 1) + 1) + 1) + 1) + 1) + 1), .inr (.inr (some 59)), .inl v2_12, .inr (.inr (some 19))]) (h' := gr_h I261 J11) (C := (((((((True ∧ True) ∧ True) ∧ True) ∧ True) ∧ True) ∧ True) ∧ True)) rfl ⟨⟨⟨⟨⟨⟨⟨trivial, trivial⟩, trivial⟩, trivial⟩, trivial⟩, trivial⟩, trivial⟩, trivial⟩ ?_
        have f297 := (gr_b_59 hI261 (Int.toNat ((((((((9 + 7 * v2_12) + 1) + 1) + 1) + 1) + 1) + 1))))
        refine gv_run 1 true hD (pc' := 231) (lv' := [(1, .inl ((((((((9 + 7 * v2_12) + 1) + 1) + 1) + 1) + 1) + 1) + 1)), (0, .inr (.inr (some 0))), (2, .inl v2_12)]) (st' := [.inl (I261 59 (Int.toNat ((((((((9 + 7 * v2_12) + 1) + 1) + 1) + 1) + 1) + 1)))), .inl v2_12, .inr (.inr (some 19))]) (h' := gr_h I261 J11) (C := (True ∧ (0 ≤ ((((((((9 + 7 * v2_12) + 1) + 1) + 1) + 1) + 1) + 1)) ∧ ((((((((9 + 7 * v2_12) + 1) + 1) + 1) + 1) + 1) + 1)) < ((80 : Nat) : Int)))) rfl ⟨trivial, ⟨by exact gz_m 73 (by omega), by exact gz_m 74 (by omega)⟩⟩ ?_
        refine gv_run 1 true hD (pc' := 232) (lv' := [(1, .inl ((((((((9 + 7 * v2_12) + 1) + 1) + 1) + 1) + 1) + 1) + 1)), (0, .inr (.inr (some 0))), (2, .inl v2_12)]) (st' := []) (h' := gz_up (gr_h I261 J11) 19 (Int.toNat v2_12) (.inl ((I261 59 (Int.toNat ((((((((9 + 7 * v2_12) + 1) + 1) + 1) + 1) + 1) + 1))))))) (C := (True ∧ (0 ≤ v2_12 ∧ v2_12 < ((8 : Nat) : Int)))) rfl ⟨trivial, ⟨by exact gz_m 75 (by omega), by exact gz_m 76 (by omega)⟩⟩ ?_
        refine gr_st hI261 FI261 rfl rfl ⟨⟨by show 0 ≤ _; exact gz_m 77 (by omega), by show _ ≤ 384; exact gz_m 78 (by omega)⟩, trivial⟩ (fun I298 hI298 FI298 q299 p299 => ?_)
        have t300 := p299 0 1 (fun q => absurd q.1 (by decide))
        have t301 := p299 0 2 (fun q => absurd q.1 (by decide))
        have t302 := p299 0 3 (fun q => absurd q.1 (by decide))
        have t303 := p299 0 4 (fun q => absurd q.1 (by decide))
        have t304 := p299 0 5 (fun q => absurd q.1 (by decide))
        have t305 := p299 0 6 (fun q => absurd q.1 (by decide))
        have t306 := p299 0 42 (fun q => absurd q.1 (by decide))
        have t307 := p299 0 59 (fun q => absurd q.1 (by decide))
        have t308 := p299 0 64 (fun q => absurd q.1 (by decide))
        have t309 := p299 59 (Int.toNat 0) (fun q => absurd q.1 (by decide))
        have t310 := p299 59 (Int.toNat ((0 + 1))) (fun q => absurd q.1 (by decide))
        have t311 := p299 59 (Int.toNat (((0 + 1) + 1))) (fun q => absurd q.1 (by decide))
        have t312 := p299 59 (Int.toNat ((((0 + 1) + 1) + 1))) (fun q => absurd q.1 (by decide))
        have t313 := p299 59 (Int.toNat (((((0 + 1) + 1) + 1) + 1))) (fun q => absurd q.1 (by decide))
        have t314 := p299 59 (Int.toNat ((((((0 + 1) + 1) + 1) + 1) + 1))) (fun q => absurd q.1 (by decide))
        have t315 := p299 59 (Int.toNat (((((((0 + 1) + 1) + 1) + 1) + 1) + 1))) (fun q => absurd q.1 (by decide))
        have t316 := p299 59 (Int.toNat ((((((((0 + 1) + 1) + 1) + 1) + 1) + 1) + 1))) (fun q => absurd q.1 (by decide))
        have t317 := p299 59 (Int.toNat (((((((((0 + 1) + 1) + 1) + 1) + 1) + 1) + 1) + 1))) (fun q => absurd q.1 (by decide))
        have f318 := (gr_b_0_1 hI298)
        have f319 := (gr_b_0_2 hI298)
        have f320 := (gr_b_0_3 hI298)
        have f321 := (gr_b_0_4 hI298)
        have f322 := (gr_b_0_5 hI298)
        have f323 := (gr_b_0_6 hI298)
        have f324 := (gr_b_0_42 hI298)
        have f325 := (gr_b_0_59 hI298)
        have f326 := (gr_b_0_64 hI298)
        have KTM_I298 := gr_TM_fr KTM_I261 (fun k => p299 52 k (fun q => absurd q.1 (by decide))) (fun k => p299 53 k (fun q => absurd q.1 (by decide))) (fun k => p299 54 k (fun q => absurd q.1 (by decide))) (p299 0 64 (fun q => absurd q.1 (by decide)))
        have t327 := FI298 59 (Int.toNat (9 + 7 * v2_12)) rfl
        have t328 := FI298 59 (Int.toNat ((9 + 7 * v2_12) + 1)) rfl
        have t329 := FI298 59 (Int.toNat (((9 + 7 * v2_12) + 1) + 1)) rfl
        have t330 := FI298 59 (Int.toNat ((((9 + 7 * v2_12) + 1) + 1) + 1)) rfl
        have t331 := FI298 59 (Int.toNat (((((9 + 7 * v2_12) + 1) + 1) + 1) + 1)) rfl
        have t332 := FI298 59 (Int.toNat ((((((9 + 7 * v2_12) + 1) + 1) + 1) + 1) + 1)) rfl
        have t333 := FI298 59 (Int.toNat (((((((9 + 7 * v2_12) + 1) + 1) + 1) + 1) + 1) + 1)) rfl
        refine gv_run 2 true hD (pc' := 121) (lv' := [(2, .inl (v2_12 + 1)), (1, .inl ((((((((9 + 7 * v2_12) + 1) + 1) + 1) + 1) + 1) + 1) + 1)), (0, .inr (.inr (some 0)))]) (st' := []) (h' := gr_h I298 J11) (C := ((True ∧ True) ∧ True)) rfl ⟨⟨trivial, trivial⟩, trivial⟩ ?_
        refine gv_pick [2, 1, 0] rfl ?_
        exact ih121 I298 J11 (((((((((9 + 7 * v2_12) + 1) + 1) + 1) + 1) + 1) + 1) + 1)) (v2_12 + 1) (by exact gz_m 79 (by omega)) hI298 FI298 FJ11 KTM_I298 (by exact gz_m 80 (by omega)) (gr_FT_nx e10_12 (by exact gz_m 81 (by omega)) (fun a j hj => by rw [p299 a j (fun q => by have := q.2; exact gz_m 82 (by omega)), p262 a j (fun q => by have := q.2; exact gz_m 83 (by omega)), p225 a j (fun q => by have := q.2; exact gz_m 84 (by omega)), p188 a j (fun q => by have := q.2; exact gz_m 85 (by omega)), p151 a j (fun q => by have := q.2; exact gz_m 86 (by omega)), p114 a j (fun q => by have := q.2; exact gz_m 87 (by omega)), p77 a j (fun q => by have := q.2; exact gz_m 88 (by omega))]) ⟨(by rw [p299 13 (Int.toNat v2_12) (fun q => absurd q.1 (by decide)), p262 13 (Int.toNat v2_12) (fun q => absurd q.1 (by decide)), p225 13 (Int.toNat v2_12) (fun q => absurd q.1 (by decide)), p188 13 (Int.toNat v2_12) (fun q => absurd q.1 (by decide)), p151 13 (Int.toNat v2_12) (fun q => absurd q.1 (by decide)), p114 13 (Int.toNat v2_12) (fun q => absurd q.1 (by decide)), q77]; exact FI10 59 (Int.toNat (9 + 7 * v2_12)) rfl), (by rw [p299 14 (Int.toNat v2_12) (fun q => absurd q.1 (by decide)), p262 14 (Int.toNat v2_12) (fun q => absurd q.1 (by decide)), p225 14 (Int.toNat v2_12) (fun q => absurd q.1 (by decide)), p188 14 (Int.toNat v2_12) (fun q => absurd q.1 (by decide)), p151 14 (Int.toNat v2_12) (fun q => absurd q.1 (by decide)), q114]; exact FI76 59 (Int.toNat ((9 + 7 * v2_12) + 1)) rfl), (by rw [p299 15 (Int.toNat v2_12) (fun q => absurd q.1 (by decide)), p262 15 (Int.toNat v2_12) (fun q => absurd q.1 (by decide)), p225 15 (Int.toNat v2_12) (fun q => absurd q.1 (by decide)), p188 15 (Int.toNat v2_12) (fun q => absurd q.1 (by decide)), q151]; exact FI113 59 (Int.toNat (((9 + 7 * v2_12) + 1) + 1)) rfl), (by rw [p299 16 (Int.toNat v2_12) (fun q => absurd q.1 (by decide)), p262 16 (Int.toNat v2_12) (fun q => absurd q.1 (by decide)), p225 16 (Int.toNat v2_12) (fun q => absurd q.1 (by decide)), q188]; exact FI150 59 (Int.toNat ((((9 + 7 * v2_12) + 1) + 1) + 1)) rfl), (by rw [p299 17 (Int.toNat v2_12) (fun q => absurd q.1 (by decide)), p262 17 (Int.toNat v2_12) (fun q => absurd q.1 (by decide)), q225]; exact FI187 59 (Int.toNat (((((9 + 7 * v2_12) + 1) + 1) + 1) + 1)) rfl), (by rw [p299 18 (Int.toNat v2_12) (fun q => absurd q.1 (by decide)), q262]; exact FI224 59 (Int.toNat ((((((9 + 7 * v2_12) + 1) + 1) + 1) + 1) + 1)) rfl), (by rw [q299]; exact FI261 59 (Int.toNat (((((((9 + 7 * v2_12) + 1) + 1) + 1) + 1) + 1) + 1)) rfl)⟩) (fun f => by rw [p299 10 f (fun q => absurd q.1 (by decide)), p262 10 f (fun q => absurd q.1 (by decide)), p225 10 f (fun q => absurd q.1 (by decide)), p188 10 f (fun q => absurd q.1 (by decide)), p151 10 f (fun q => absurd q.1 (by decide)), p114 10 f (fun q => absurd q.1 (by decide)), p77 10 f (fun q => absurd q.1 (by decide))]; exact e11_12 f)
  refine gv_run 7 true hD (pc' := 11) (lv' := [(1, .inl (0 + 1)), (0, .inr (.inr (some 0)))]) (st' := [.inl 0, .inr (.inr (some 59)), .inr (.inr (some 0))]) (h' := gr_h I J) (C := (((((((True ∧ True) ∧ True) ∧ True) ∧ True) ∧ True) ∧ True) ∧ True)) rfl ⟨⟨⟨⟨⟨⟨⟨trivial, trivial⟩, trivial⟩, trivial⟩, trivial⟩, trivial⟩, trivial⟩, trivial⟩ ?_
  have f334 := (gr_b_59 hI (Int.toNat 0))
  refine gv_run 1 true hD (pc' := 12) (lv' := [(1, .inl (0 + 1)), (0, .inr (.inr (some 0)))]) (st' := [.inl (I 59 (Int.toNat 0)), .inr (.inr (some 0))]) (h' := gr_h I J) (C := (True ∧ (0 ≤ 0 ∧ 0 < ((80 : Nat) : Int)))) rfl ⟨trivial, ⟨by exact gz_m 89 (by omega), by exact gz_m 90 (by omega)⟩⟩ ?_
  refine gv_run 1 true hD (pc' := 15) (lv' := [(1, .inl (0 + 1)), (0, .inr (.inr (some 0)))]) (st' := []) (h' := gz_up (gr_h I J) 0 1 (.inl ((I 59 (Int.toNat 0))))) (C := (True ∧ True)) rfl ⟨trivial, trivial⟩ ?_
  refine gr_st hI FI rfl rfl ⟨⟨by show 0 ≤ _; exact gz_m 91 (by omega), by show _ ≤ 8; exact gz_m 92 (by omega)⟩, trivial⟩ (fun I335 hI335 FI335 q336 p336 => ?_)
  have t337 := p336 0 2 (by decide)
  have t338 := p336 0 3 (by decide)
  have t339 := p336 0 4 (by decide)
  have t340 := p336 0 5 (by decide)
  have t341 := p336 0 6 (by decide)
  have t342 := p336 0 42 (by decide)
  have t343 := p336 0 59 (by decide)
  have t344 := p336 0 64 (by decide)
  have t345 := p336 59 (Int.toNat 0) (fun q => absurd q.1 (by decide))
  have t346 := p336 59 (Int.toNat ((0 + 1))) (fun q => absurd q.1 (by decide))
  have t347 := p336 59 (Int.toNat (((0 + 1) + 1))) (fun q => absurd q.1 (by decide))
  have t348 := p336 59 (Int.toNat ((((0 + 1) + 1) + 1))) (fun q => absurd q.1 (by decide))
  have t349 := p336 59 (Int.toNat (((((0 + 1) + 1) + 1) + 1))) (fun q => absurd q.1 (by decide))
  have t350 := p336 59 (Int.toNat ((((((0 + 1) + 1) + 1) + 1) + 1))) (fun q => absurd q.1 (by decide))
  have t351 := p336 59 (Int.toNat (((((((0 + 1) + 1) + 1) + 1) + 1) + 1))) (fun q => absurd q.1 (by decide))
  have t352 := p336 59 (Int.toNat ((((((((0 + 1) + 1) + 1) + 1) + 1) + 1) + 1))) (fun q => absurd q.1 (by decide))
  have t353 := p336 59 (Int.toNat (((((((((0 + 1) + 1) + 1) + 1) + 1) + 1) + 1) + 1))) (fun q => absurd q.1 (by decide))
  have f354 := (gr_b_0_1 hI335)
  have f355 := (gr_b_0_2 hI335)
  have f356 := (gr_b_0_3 hI335)
  have f357 := (gr_b_0_4 hI335)
  have f358 := (gr_b_0_5 hI335)
  have f359 := (gr_b_0_6 hI335)
  have f360 := (gr_b_0_42 hI335)
  have f361 := (gr_b_0_59 hI335)
  have f362 := (gr_b_0_64 hI335)
  have KTM_I335 := gr_TM_fr KTM_I (fun k => p336 52 k (fun q => absurd q.1 (by decide))) (fun k => p336 53 k (fun q => absurd q.1 (by decide))) (fun k => p336 54 k (fun q => absurd q.1 (by decide))) (p336 0 64 (by decide))
  have f363 := (gr_b_59 hI335 (Int.toNat ((0 + 1))))
  refine gv_run 6 true hD (pc' := 25) (lv' := [(1, .inl ((0 + 1) + 1)), (0, .inr (.inr (some 0)))]) (st' := [.inl (I335 59 (Int.toNat ((0 + 1)))), .inr (.inr (some 0))]) (h' := gr_h I335 J) (C := ((((((True ∧ True) ∧ True) ∧ True) ∧ True) ∧ True) ∧ (0 ≤ (0 + 1) ∧ (0 + 1) < ((80 : Nat) : Int)))) rfl ⟨⟨⟨⟨⟨⟨trivial, trivial⟩, trivial⟩, trivial⟩, trivial⟩, trivial⟩, ⟨by exact gz_m 93 (by omega), by exact gz_m 94 (by omega)⟩⟩ ?_
  refine gv_run 1 true hD (pc' := 28) (lv' := [(1, .inl ((0 + 1) + 1)), (0, .inr (.inr (some 0)))]) (st' := []) (h' := gz_up (gr_h I335 J) 0 2 (.inl ((I335 59 (Int.toNat ((0 + 1))))))) (C := (True ∧ True)) rfl ⟨trivial, trivial⟩ ?_
  refine gr_st hI335 FI335 rfl rfl ⟨⟨by show 0 ≤ _; exact gz_m 95 (by omega), by show _ ≤ 32; exact gz_m 96 (by omega)⟩, trivial⟩ (fun I364 hI364 FI364 q365 p365 => ?_)
  have t366 := p365 0 1 (by decide)
  have t367 := p365 0 3 (by decide)
  have t368 := p365 0 4 (by decide)
  have t369 := p365 0 5 (by decide)
  have t370 := p365 0 6 (by decide)
  have t371 := p365 0 42 (by decide)
  have t372 := p365 0 59 (by decide)
  have t373 := p365 0 64 (by decide)
  have t374 := p365 59 (Int.toNat 0) (fun q => absurd q.1 (by decide))
  have t375 := p365 59 (Int.toNat ((0 + 1))) (fun q => absurd q.1 (by decide))
  have t376 := p365 59 (Int.toNat (((0 + 1) + 1))) (fun q => absurd q.1 (by decide))
  have t377 := p365 59 (Int.toNat ((((0 + 1) + 1) + 1))) (fun q => absurd q.1 (by decide))
  have t378 := p365 59 (Int.toNat (((((0 + 1) + 1) + 1) + 1))) (fun q => absurd q.1 (by decide))
  have t379 := p365 59 (Int.toNat ((((((0 + 1) + 1) + 1) + 1) + 1))) (fun q => absurd q.1 (by decide))
  have t380 := p365 59 (Int.toNat (((((((0 + 1) + 1) + 1) + 1) + 1) + 1))) (fun q => absurd q.1 (by decide))
  have t381 := p365 59 (Int.toNat ((((((((0 + 1) + 1) + 1) + 1) + 1) + 1) + 1))) (fun q => absurd q.1 (by decide))
  have t382 := p365 59 (Int.toNat (((((((((0 + 1) + 1) + 1) + 1) + 1) + 1) + 1) + 1))) (fun q => absurd q.1 (by decide))
  have f383 := (gr_b_0_1 hI364)
  have f384 := (gr_b_0_2 hI364)
  have f385 := (gr_b_0_3 hI364)
  have f386 := (gr_b_0_4 hI364)
  have f387 := (gr_b_0_5 hI364)
  have f388 := (gr_b_0_6 hI364)
  have f389 := (gr_b_0_42 hI364)
  have f390 := (gr_b_0_59 hI364)
  have f391 := (gr_b_0_64 hI364)
  have KTM_I364 := gr_TM_fr KTM_I335 (fun k => p365 52 k (fun q => absurd q.1 (by decide))) (fun k => p365 53 k (fun q => absurd q.1 (by decide))) (fun k => p365 54 k (fun q => absurd q.1 (by decide))) (p365 0 64 (by decide))
  have f392 := (gr_b_59 hI364 (Int.toNat (((0 + 1) + 1))))
  refine gv_run 6 true hD (pc' := 38) (lv' := [(1, .inl (((0 + 1) + 1) + 1)), (0, .inr (.inr (some 0)))]) (st' := [.inl (I364 59 (Int.toNat (((0 + 1) + 1)))), .inr (.inr (some 0))]) (h' := gr_h I364 J) (C := ((((((True ∧ True) ∧ True) ∧ True) ∧ True) ∧ True) ∧ (0 ≤ (((0 + 1) + 1)) ∧ (((0 + 1) + 1)) < ((80 : Nat) : Int)))) rfl ⟨⟨⟨⟨⟨⟨trivial, trivial⟩, trivial⟩, trivial⟩, trivial⟩, trivial⟩, ⟨by exact gz_m 97 (by omega), by exact gz_m 98 (by omega)⟩⟩ ?_
  refine gv_run 1 true hD (pc' := 41) (lv' := [(1, .inl (((0 + 1) + 1) + 1)), (0, .inr (.inr (some 0)))]) (st' := []) (h' := gz_up (gr_h I364 J) 0 3 (.inl ((I364 59 (Int.toNat (((0 + 1) + 1))))))) (C := (True ∧ True)) rfl ⟨trivial, trivial⟩ ?_
  refine gr_st hI364 FI364 rfl rfl ⟨⟨by show 0 ≤ _; exact gz_m 99 (by omega), by show _ ≤ 96; exact gz_m 100 (by omega)⟩, trivial⟩ (fun I393 hI393 FI393 q394 p394 => ?_)
  have t395 := p394 0 1 (by decide)
  have t396 := p394 0 2 (by decide)
  have t397 := p394 0 4 (by decide)
  have t398 := p394 0 5 (by decide)
  have t399 := p394 0 6 (by decide)
  have t400 := p394 0 42 (by decide)
  have t401 := p394 0 59 (by decide)
  have t402 := p394 0 64 (by decide)
  have t403 := p394 59 (Int.toNat 0) (fun q => absurd q.1 (by decide))
  have t404 := p394 59 (Int.toNat ((0 + 1))) (fun q => absurd q.1 (by decide))
  have t405 := p394 59 (Int.toNat (((0 + 1) + 1))) (fun q => absurd q.1 (by decide))
  have t406 := p394 59 (Int.toNat ((((0 + 1) + 1) + 1))) (fun q => absurd q.1 (by decide))
  have t407 := p394 59 (Int.toNat (((((0 + 1) + 1) + 1) + 1))) (fun q => absurd q.1 (by decide))
  have t408 := p394 59 (Int.toNat ((((((0 + 1) + 1) + 1) + 1) + 1))) (fun q => absurd q.1 (by decide))
  have t409 := p394 59 (Int.toNat (((((((0 + 1) + 1) + 1) + 1) + 1) + 1))) (fun q => absurd q.1 (by decide))
  have t410 := p394 59 (Int.toNat ((((((((0 + 1) + 1) + 1) + 1) + 1) + 1) + 1))) (fun q => absurd q.1 (by decide))
  have t411 := p394 59 (Int.toNat (((((((((0 + 1) + 1) + 1) + 1) + 1) + 1) + 1) + 1))) (fun q => absurd q.1 (by decide))
  have f412 := (gr_b_0_1 hI393)
  have f413 := (gr_b_0_2 hI393)
  have f414 := (gr_b_0_3 hI393)
  have f415 := (gr_b_0_4 hI393)
  have f416 := (gr_b_0_5 hI393)
  have f417 := (gr_b_0_6 hI393)
  have f418 := (gr_b_0_42 hI393)
  have f419 := (gr_b_0_59 hI393)
  have f420 := (gr_b_0_64 hI393)
  have KTM_I393 := gr_TM_fr KTM_I364 (fun k => p394 52 k (fun q => absurd q.1 (by decide))) (fun k => p394 53 k (fun q => absurd q.1 (by decide))) (fun k => p394 54 k (fun q => absurd q.1 (by decide))) (p394 0 64 (by decide))
  have f421 := (gr_b_59 hI393 (Int.toNat ((((0 + 1) + 1) + 1))))
  refine gv_run 6 true hD (pc' := 51) (lv' := [(1, .inl ((((0 + 1) + 1) + 1) + 1)), (0, .inr (.inr (some 0)))]) (st' := [.inl (I393 59 (Int.toNat ((((0 + 1) + 1) + 1)))), .inr (.inr (some 0))]) (h' := gr_h I393 J) (C := ((((((True ∧ True) ∧ True) ∧ True) ∧ True) ∧ True) ∧ (0 ≤ ((((0 + 1) + 1) + 1)) ∧ ((((0 + 1) + 1) + 1)) < ((80 : Nat) : Int)))) rfl ⟨⟨⟨⟨⟨⟨trivial, trivial⟩, trivial⟩, trivial⟩, trivial⟩, trivial⟩, ⟨by exact gz_m 101 (by omega), by exact gz_m 102 (by omega)⟩⟩ ?_
  refine gv_run 1 true hD (pc' := 54) (lv' := [(1, .inl ((((0 + 1) + 1) + 1) + 1)), (0, .inr (.inr (some 0)))]) (st' := []) (h' := gz_up (gr_h I393 J) 0 4 (.inl ((I393 59 (Int.toNat ((((0 + 1) + 1) + 1))))))) (C := (True ∧ True)) rfl ⟨trivial, trivial⟩ ?_
  refine gr_st hI393 FI393 rfl rfl ⟨⟨by show 0 ≤ _; exact gz_m 103 (by omega), by show _ ≤ 8; exact gz_m 104 (by omega)⟩, trivial⟩ (fun I422 hI422 FI422 q423 p423 => ?_)
  have t424 := p423 0 1 (by decide)
  have t425 := p423 0 2 (by decide)
  have t426 := p423 0 3 (by decide)
  have t427 := p423 0 5 (by decide)
  have t428 := p423 0 6 (by decide)
  have t429 := p423 0 42 (by decide)
  have t430 := p423 0 59 (by decide)
  have t431 := p423 0 64 (by decide)
  have t432 := p423 59 (Int.toNat 0) (fun q => absurd q.1 (by decide))
  have t433 := p423 59 (Int.toNat ((0 + 1))) (fun q => absurd q.1 (by decide))
  have t434 := p423 59 (Int.toNat (((0 + 1) + 1))) (fun q => absurd q.1 (by decide))
  have t435 := p423 59 (Int.toNat ((((0 + 1) + 1) + 1))) (fun q => absurd q.1 (by decide))
  have t436 := p423 59 (Int.toNat (((((0 + 1) + 1) + 1) + 1))) (fun q => absurd q.1 (by decide))
  have t437 := p423 59 (Int.toNat ((((((0 + 1) + 1) + 1) + 1) + 1))) (fun q => absurd q.1 (by decide))
  have t438 := p423 59 (Int.toNat (((((((0 + 1) + 1) + 1) + 1) + 1) + 1))) (fun q => absurd q.1 (by decide))
  have t439 := p423 59 (Int.toNat ((((((((0 + 1) + 1) + 1) + 1) + 1) + 1) + 1))) (fun q => absurd q.1 (by decide))
  have t440 := p423 59 (Int.toNat (((((((((0 + 1) + 1) + 1) + 1) + 1) + 1) + 1) + 1))) (fun q => absurd q.1 (by decide))
  have f441 := (gr_b_0_1 hI422)
  have f442 := (gr_b_0_2 hI422)
  have f443 := (gr_b_0_3 hI422)
  have f444 := (gr_b_0_4 hI422)
  have f445 := (gr_b_0_5 hI422)
  have f446 := (gr_b_0_6 hI422)
  have f447 := (gr_b_0_42 hI422)
  have f448 := (gr_b_0_59 hI422)
  have f449 := (gr_b_0_64 hI422)
  have KTM_I422 := gr_TM_fr KTM_I393 (fun k => p423 52 k (fun q => absurd q.1 (by decide))) (fun k => p423 53 k (fun q => absurd q.1 (by decide))) (fun k => p423 54 k (fun q => absurd q.1 (by decide))) (p423 0 64 (by decide))
  have f450 := (gr_b_59 hI422 (Int.toNat (((((0 + 1) + 1) + 1) + 1))))
  refine gv_run 6 true hD (pc' := 64) (lv' := [(1, .inl (((((0 + 1) + 1) + 1) + 1) + 1)), (0, .inr (.inr (some 0)))]) (st' := [.inl (I422 59 (Int.toNat (((((0 + 1) + 1) + 1) + 1)))), .inr (.inr (some 0))]) (h' := gr_h I422 J) (C := ((((((True ∧ True) ∧ True) ∧ True) ∧ True) ∧ True) ∧ (0 ≤ (((((0 + 1) + 1) + 1) + 1)) ∧ (((((0 + 1) + 1) + 1) + 1)) < ((80 : Nat) : Int)))) rfl ⟨⟨⟨⟨⟨⟨trivial, trivial⟩, trivial⟩, trivial⟩, trivial⟩, trivial⟩, ⟨by exact gz_m 105 (by omega), by exact gz_m 106 (by omega)⟩⟩ ?_
  refine gv_run 1 true hD (pc' := 67) (lv' := [(1, .inl (((((0 + 1) + 1) + 1) + 1) + 1)), (0, .inr (.inr (some 0)))]) (st' := []) (h' := gz_up (gr_h I422 J) 0 5 (.inl ((I422 59 (Int.toNat (((((0 + 1) + 1) + 1) + 1))))))) (C := (True ∧ True)) rfl ⟨trivial, trivial⟩ ?_
  refine gr_st hI422 FI422 rfl rfl ⟨⟨by show 0 ≤ _; exact gz_m 107 (by omega), by show _ ≤ 64; exact gz_m 108 (by omega)⟩, trivial⟩ (fun I451 hI451 FI451 q452 p452 => ?_)
  have t453 := p452 0 1 (by decide)
  have t454 := p452 0 2 (by decide)
  have t455 := p452 0 3 (by decide)
  have t456 := p452 0 4 (by decide)
  have t457 := p452 0 6 (by decide)
  have t458 := p452 0 42 (by decide)
  have t459 := p452 0 59 (by decide)
  have t460 := p452 0 64 (by decide)
  have t461 := p452 59 (Int.toNat 0) (fun q => absurd q.1 (by decide))
  have t462 := p452 59 (Int.toNat ((0 + 1))) (fun q => absurd q.1 (by decide))
  have t463 := p452 59 (Int.toNat (((0 + 1) + 1))) (fun q => absurd q.1 (by decide))
  have t464 := p452 59 (Int.toNat ((((0 + 1) + 1) + 1))) (fun q => absurd q.1 (by decide))
  have t465 := p452 59 (Int.toNat (((((0 + 1) + 1) + 1) + 1))) (fun q => absurd q.1 (by decide))
  have t466 := p452 59 (Int.toNat ((((((0 + 1) + 1) + 1) + 1) + 1))) (fun q => absurd q.1 (by decide))
  have t467 := p452 59 (Int.toNat (((((((0 + 1) + 1) + 1) + 1) + 1) + 1))) (fun q => absurd q.1 (by decide))
  have t468 := p452 59 (Int.toNat ((((((((0 + 1) + 1) + 1) + 1) + 1) + 1) + 1))) (fun q => absurd q.1 (by decide))
  have t469 := p452 59 (Int.toNat (((((((((0 + 1) + 1) + 1) + 1) + 1) + 1) + 1) + 1))) (fun q => absurd q.1 (by decide))
  have f470 := (gr_b_0_1 hI451)
  have f471 := (gr_b_0_2 hI451)
  have f472 := (gr_b_0_3 hI451)
  have f473 := (gr_b_0_4 hI451)
  have f474 := (gr_b_0_5 hI451)
  have f475 := (gr_b_0_6 hI451)
  have f476 := (gr_b_0_42 hI451)
  have f477 := (gr_b_0_59 hI451)
  have f478 := (gr_b_0_64 hI451)
  have KTM_I451 := gr_TM_fr KTM_I422 (fun k => p452 52 k (fun q => absurd q.1 (by decide))) (fun k => p452 53 k (fun q => absurd q.1 (by decide))) (fun k => p452 54 k (fun q => absurd q.1 (by decide))) (p452 0 64 (by decide))
  have f479 := (gr_b_59 hI451 (Int.toNat ((((((0 + 1) + 1) + 1) + 1) + 1))))
  refine gv_run 6 true hD (pc' := 77) (lv' := [(1, .inl ((((((0 + 1) + 1) + 1) + 1) + 1) + 1)), (0, .inr (.inr (some 0)))]) (st' := [.inl (I451 59 (Int.toNat ((((((0 + 1) + 1) + 1) + 1) + 1)))), .inr (.inr (some 0))]) (h' := gr_h I451 J) (C := ((((((True ∧ True) ∧ True) ∧ True) ∧ True) ∧ True) ∧ (0 ≤ ((((((0 + 1) + 1) + 1) + 1) + 1)) ∧ ((((((0 + 1) + 1) + 1) + 1) + 1)) < ((80 : Nat) : Int)))) rfl ⟨⟨⟨⟨⟨⟨trivial, trivial⟩, trivial⟩, trivial⟩, trivial⟩, trivial⟩, ⟨by exact gz_m 109 (by omega), by exact gz_m 110 (by omega)⟩⟩ ?_
  refine gv_run 1 true hD (pc' := 80) (lv' := [(1, .inl ((((((0 + 1) + 1) + 1) + 1) + 1) + 1)), (0, .inr (.inr (some 0)))]) (st' := []) (h' := gz_up (gr_h I451 J) 0 6 (.inl ((I451 59 (Int.toNat ((((((0 + 1) + 1) + 1) + 1) + 1))))))) (C := (True ∧ True)) rfl ⟨trivial, trivial⟩ ?_
  refine gr_st hI451 FI451 rfl rfl ⟨⟨by show (-1) ≤ _; exact gz_m 111 (by omega), by show _ ≤ 7; exact gz_m 112 (by omega)⟩, trivial⟩ (fun I480 hI480 FI480 q481 p481 => ?_)
  have t482 := p481 0 1 (by decide)
  have t483 := p481 0 2 (by decide)
  have t484 := p481 0 3 (by decide)
  have t485 := p481 0 4 (by decide)
  have t486 := p481 0 5 (by decide)
  have t487 := p481 0 42 (by decide)
  have t488 := p481 0 59 (by decide)
  have t489 := p481 0 64 (by decide)
  have t490 := p481 59 (Int.toNat 0) (fun q => absurd q.1 (by decide))
  have t491 := p481 59 (Int.toNat ((0 + 1))) (fun q => absurd q.1 (by decide))
  have t492 := p481 59 (Int.toNat (((0 + 1) + 1))) (fun q => absurd q.1 (by decide))
  have t493 := p481 59 (Int.toNat ((((0 + 1) + 1) + 1))) (fun q => absurd q.1 (by decide))
  have t494 := p481 59 (Int.toNat (((((0 + 1) + 1) + 1) + 1))) (fun q => absurd q.1 (by decide))
  have t495 := p481 59 (Int.toNat ((((((0 + 1) + 1) + 1) + 1) + 1))) (fun q => absurd q.1 (by decide))
  have t496 := p481 59 (Int.toNat (((((((0 + 1) + 1) + 1) + 1) + 1) + 1))) (fun q => absurd q.1 (by decide))
  have t497 := p481 59 (Int.toNat ((((((((0 + 1) + 1) + 1) + 1) + 1) + 1) + 1))) (fun q => absurd q.1 (by decide))
  have t498 := p481 59 (Int.toNat (((((((((0 + 1) + 1) + 1) + 1) + 1) + 1) + 1) + 1))) (fun q => absurd q.1 (by decide))
  have f499 := (gr_b_0_1 hI480)
  have f500 := (gr_b_0_2 hI480)
  have f501 := (gr_b_0_3 hI480)
  have f502 := (gr_b_0_4 hI480)
  have f503 := (gr_b_0_5 hI480)
  have f504 := (gr_b_0_6 hI480)
  have f505 := (gr_b_0_42 hI480)
  have f506 := (gr_b_0_59 hI480)
  have f507 := (gr_b_0_64 hI480)
  have KTM_I480 := gr_TM_fr KTM_I451 (fun k => p481 52 k (fun q => absurd q.1 (by decide))) (fun k => p481 53 k (fun q => absurd q.1 (by decide))) (fun k => p481 54 k (fun q => absurd q.1 (by decide))) (p481 0 64 (by decide))
  have f508 := (gr_b_59 hI480 (Int.toNat (((((((0 + 1) + 1) + 1) + 1) + 1) + 1))))
  refine gv_run 6 true hD (pc' := 90) (lv' := [(1, .inl (((((((0 + 1) + 1) + 1) + 1) + 1) + 1) + 1)), (0, .inr (.inr (some 0)))]) (st' := [.inl (I480 59 (Int.toNat (((((((0 + 1) + 1) + 1) + 1) + 1) + 1)))), .inr (.inr (some 0))]) (h' := gr_h I480 J) (C := ((((((True ∧ True) ∧ True) ∧ True) ∧ True) ∧ True) ∧ (0 ≤ (((((((0 + 1) + 1) + 1) + 1) + 1) + 1)) ∧ (((((((0 + 1) + 1) + 1) + 1) + 1) + 1)) < ((80 : Nat) : Int)))) rfl ⟨⟨⟨⟨⟨⟨trivial, trivial⟩, trivial⟩, trivial⟩, trivial⟩, trivial⟩, ⟨by exact gz_m 113 (by omega), by exact gz_m 114 (by omega)⟩⟩ ?_
  refine gv_run 1 true hD (pc' := 93) (lv' := [(1, .inl (((((((0 + 1) + 1) + 1) + 1) + 1) + 1) + 1)), (0, .inr (.inr (some 0)))]) (st' := []) (h' := gz_up (gr_h I480 J) 0 42 (.inl ((I480 59 (Int.toNat (((((((0 + 1) + 1) + 1) + 1) + 1) + 1))))))) (C := (True ∧ True)) rfl ⟨trivial, trivial⟩ ?_
  refine gr_st hI480 FI480 rfl rfl ⟨⟨by show 0 ≤ _; exact gz_m 115 (by omega), by show _ ≤ 2000; exact gz_m 116 (by omega)⟩, trivial⟩ (fun I509 hI509 FI509 q510 p510 => ?_)
  have t511 := p510 0 1 (by decide)
  have t512 := p510 0 2 (by decide)
  have t513 := p510 0 3 (by decide)
  have t514 := p510 0 4 (by decide)
  have t515 := p510 0 5 (by decide)
  have t516 := p510 0 6 (by decide)
  have t517 := p510 0 59 (by decide)
  have t518 := p510 0 64 (by decide)
  have t519 := p510 59 (Int.toNat 0) (fun q => absurd q.1 (by decide))
  have t520 := p510 59 (Int.toNat ((0 + 1))) (fun q => absurd q.1 (by decide))
  have t521 := p510 59 (Int.toNat (((0 + 1) + 1))) (fun q => absurd q.1 (by decide))
  have t522 := p510 59 (Int.toNat ((((0 + 1) + 1) + 1))) (fun q => absurd q.1 (by decide))
  have t523 := p510 59 (Int.toNat (((((0 + 1) + 1) + 1) + 1))) (fun q => absurd q.1 (by decide))
  have t524 := p510 59 (Int.toNat ((((((0 + 1) + 1) + 1) + 1) + 1))) (fun q => absurd q.1 (by decide))
  have t525 := p510 59 (Int.toNat (((((((0 + 1) + 1) + 1) + 1) + 1) + 1))) (fun q => absurd q.1 (by decide))
  have t526 := p510 59 (Int.toNat ((((((((0 + 1) + 1) + 1) + 1) + 1) + 1) + 1))) (fun q => absurd q.1 (by decide))
  have t527 := p510 59 (Int.toNat (((((((((0 + 1) + 1) + 1) + 1) + 1) + 1) + 1) + 1))) (fun q => absurd q.1 (by decide))
  have f528 := (gr_b_0_1 hI509)
  have f529 := (gr_b_0_2 hI509)
  have f530 := (gr_b_0_3 hI509)
  have f531 := (gr_b_0_4 hI509)
  have f532 := (gr_b_0_5 hI509)
  have f533 := (gr_b_0_6 hI509)
  have f534 := (gr_b_0_42 hI509)
  have f535 := (gr_b_0_59 hI509)
  have f536 := (gr_b_0_64 hI509)
  have KTM_I509 := gr_TM_fr KTM_I480 (fun k => p510 52 k (fun q => absurd q.1 (by decide))) (fun k => p510 53 k (fun q => absurd q.1 (by decide))) (fun k => p510 54 k (fun q => absurd q.1 (by decide))) (p510 0 64 (by decide))
  have f537 := (gr_b_59 hI509 (Int.toNat ((((((((0 + 1) + 1) + 1) + 1) + 1) + 1) + 1))))
  refine gv_run 6 true hD (pc' := 103) (lv' := [(1, .inl ((((((((0 + 1) + 1) + 1) + 1) + 1) + 1) + 1) + 1)), (0, .inr (.inr (some 0)))]) (st' := [.inl (I509 59 (Int.toNat ((((((((0 + 1) + 1) + 1) + 1) + 1) + 1) + 1)))), .inr (.inr (some 0))]) (h' := gr_h I509 J) (C := ((((((True ∧ True) ∧ True) ∧ True) ∧ True) ∧ True) ∧ (0 ≤ ((((((((0 + 1) + 1) + 1) + 1) + 1) + 1) + 1)) ∧ ((((((((0 + 1) + 1) + 1) + 1) + 1) + 1) + 1)) < ((80 : Nat) : Int)))) rfl ⟨⟨⟨⟨⟨⟨trivial, trivial⟩, trivial⟩, trivial⟩, trivial⟩, trivial⟩, ⟨by exact gz_m 117 (by omega), by exact gz_m 118 (by omega)⟩⟩ ?_
  refine gv_run 1 true hD (pc' := 106) (lv' := [(1, .inl ((((((((0 + 1) + 1) + 1) + 1) + 1) + 1) + 1) + 1)), (0, .inr (.inr (some 0)))]) (st' := []) (h' := gz_up (gr_h I509 J) 0 59 (.inl ((I509 59 (Int.toNat ((((((((0 + 1) + 1) + 1) + 1) + 1) + 1) + 1))))))) (C := (True ∧ True)) rfl ⟨trivial, trivial⟩ ?_
  refine gr_st hI509 FI509 rfl rfl ⟨⟨by show 0 ≤ _; exact gz_m 119 (by omega), by show _ ≤ 2000; exact gz_m 120 (by omega)⟩, trivial⟩ (fun I538 hI538 FI538 q539 p539 => ?_)
  have t540 := p539 0 1 (by decide)
  have t541 := p539 0 2 (by decide)
  have t542 := p539 0 3 (by decide)
  have t543 := p539 0 4 (by decide)
  have t544 := p539 0 5 (by decide)
  have t545 := p539 0 6 (by decide)
  have t546 := p539 0 42 (by decide)
  have t547 := p539 0 64 (by decide)
  have t548 := p539 59 (Int.toNat 0) (fun q => absurd q.1 (by decide))
  have t549 := p539 59 (Int.toNat ((0 + 1))) (fun q => absurd q.1 (by decide))
  have t550 := p539 59 (Int.toNat (((0 + 1) + 1))) (fun q => absurd q.1 (by decide))
  have t551 := p539 59 (Int.toNat ((((0 + 1) + 1) + 1))) (fun q => absurd q.1 (by decide))
  have t552 := p539 59 (Int.toNat (((((0 + 1) + 1) + 1) + 1))) (fun q => absurd q.1 (by decide))
  have t553 := p539 59 (Int.toNat ((((((0 + 1) + 1) + 1) + 1) + 1))) (fun q => absurd q.1 (by decide))
  have t554 := p539 59 (Int.toNat (((((((0 + 1) + 1) + 1) + 1) + 1) + 1))) (fun q => absurd q.1 (by decide))
  have t555 := p539 59 (Int.toNat ((((((((0 + 1) + 1) + 1) + 1) + 1) + 1) + 1))) (fun q => absurd q.1 (by decide))
  have t556 := p539 59 (Int.toNat (((((((((0 + 1) + 1) + 1) + 1) + 1) + 1) + 1) + 1))) (fun q => absurd q.1 (by decide))
  have f557 := (gr_b_0_1 hI538)
  have f558 := (gr_b_0_2 hI538)
  have f559 := (gr_b_0_3 hI538)
  have f560 := (gr_b_0_4 hI538)
  have f561 := (gr_b_0_5 hI538)
  have f562 := (gr_b_0_6 hI538)
  have f563 := (gr_b_0_42 hI538)
  have f564 := (gr_b_0_59 hI538)
  have f565 := (gr_b_0_64 hI538)
  have KTM_I538 := gr_TM_fr KTM_I509 (fun k => p539 52 k (fun q => absurd q.1 (by decide))) (fun k => p539 53 k (fun q => absurd q.1 (by decide))) (fun k => p539 54 k (fun q => absurd q.1 (by decide))) (p539 0 64 (by decide))
  have f566 := (gr_b_59 hI538 (Int.toNat (((((((((0 + 1) + 1) + 1) + 1) + 1) + 1) + 1) + 1))))
  refine gv_run 6 true hD (pc' := 116) (lv' := [(1, .inl (((((((((0 + 1) + 1) + 1) + 1) + 1) + 1) + 1) + 1) + 1)), (0, .inr (.inr (some 0)))]) (st' := [.inl (I538 59 (Int.toNat (((((((((0 + 1) + 1) + 1) + 1) + 1) + 1) + 1) + 1)))), .inr (.inr (some 0))]) (h' := gr_h I538 J) (C := ((((((True ∧ True) ∧ True) ∧ True) ∧ True) ∧ True) ∧ (0 ≤ (((((((((0 + 1) + 1) + 1) + 1) + 1) + 1) + 1) + 1)) ∧ (((((((((0 + 1) + 1) + 1) + 1) + 1) + 1) + 1) + 1)) < ((80 : Nat) : Int)))) rfl ⟨⟨⟨⟨⟨⟨trivial, trivial⟩, trivial⟩, trivial⟩, trivial⟩, trivial⟩, ⟨by exact gz_m 121 (by omega), by exact gz_m 122 (by omega)⟩⟩ ?_
  refine gv_run 1 true hD (pc' := 119) (lv' := [(1, .inl (((((((((0 + 1) + 1) + 1) + 1) + 1) + 1) + 1) + 1) + 1)), (0, .inr (.inr (some 0)))]) (st' := []) (h' := gz_up (gr_h I538 J) 0 64 (.inl ((I538 59 (Int.toNat (((((((((0 + 1) + 1) + 1) + 1) + 1) + 1) + 1) + 1))))))) (C := (True ∧ True)) rfl ⟨trivial, trivial⟩ ?_
  refine gr_st hI538 FI538 rfl rfl ⟨⟨by show 0 ≤ _; exact gz_m 123 (by omega), by show _ ≤ 2000; exact gz_m 124 (by omega)⟩, trivial⟩ (fun I567 hI567 FI567 q568 p568 => ?_)
  have t569 := p568 0 1 (by decide)
  have t570 := p568 0 2 (by decide)
  have t571 := p568 0 3 (by decide)
  have t572 := p568 0 4 (by decide)
  have t573 := p568 0 5 (by decide)
  have t574 := p568 0 6 (by decide)
  have t575 := p568 0 42 (by decide)
  have t576 := p568 0 59 (by decide)
  have t577 := p568 59 (Int.toNat 0) (fun q => absurd q.1 (by decide))
  have t578 := p568 59 (Int.toNat ((0 + 1))) (fun q => absurd q.1 (by decide))
  have t579 := p568 59 (Int.toNat (((0 + 1) + 1))) (fun q => absurd q.1 (by decide))
  have t580 := p568 59 (Int.toNat ((((0 + 1) + 1) + 1))) (fun q => absurd q.1 (by decide))
  have t581 := p568 59 (Int.toNat (((((0 + 1) + 1) + 1) + 1))) (fun q => absurd q.1 (by decide))
  have t582 := p568 59 (Int.toNat ((((((0 + 1) + 1) + 1) + 1) + 1))) (fun q => absurd q.1 (by decide))
  have t583 := p568 59 (Int.toNat (((((((0 + 1) + 1) + 1) + 1) + 1) + 1))) (fun q => absurd q.1 (by decide))
  have t584 := p568 59 (Int.toNat ((((((((0 + 1) + 1) + 1) + 1) + 1) + 1) + 1))) (fun q => absurd q.1 (by decide))
  have t585 := p568 59 (Int.toNat (((((((((0 + 1) + 1) + 1) + 1) + 1) + 1) + 1) + 1))) (fun q => absurd q.1 (by decide))
  have f586 := (gr_b_0_1 hI567)
  have f587 := (gr_b_0_2 hI567)
  have f588 := (gr_b_0_3 hI567)
  have f589 := (gr_b_0_4 hI567)
  have f590 := (gr_b_0_5 hI567)
  have f591 := (gr_b_0_6 hI567)
  have f592 := (gr_b_0_42 hI567)
  have f593 := (gr_b_0_59 hI567)
  have f594 := (gr_b_0_64 hI567)
  have KTM_I567 := gr_TM_n (n := (Int.toNat (I 0 64))) KTM_I538 p568 (by exact gz_m 125 (by omega))
  refine gv_run 2 true hD (pc' := 121) (lv' := [(2, .inl 0), (1, .inl (((((((((0 + 1) + 1) + 1) + 1) + 1) + 1) + 1) + 1) + 1)), (0, .inr (.inr (some 0)))]) (st' := []) (h' := gr_h I567 J) (C := ((True ∧ True) ∧ True)) rfl ⟨⟨trivial, trivial⟩, trivial⟩ ?_
  refine gv_pick [2, 1, 0] rfl ?_
  exact L121 _ I567 J ((((((((((0 + 1) + 1) + 1) + 1) + 1) + 1) + 1) + 1) + 1)) 0 (Nat.lt_succ_self _) hI567 FI567 FJ KTM_I567 (by exact gz_m 126 (by omega)) (fun t a b => by exact gz_m 127 (by omega)) (fun f => by rw [p568 10 f (fun q => absurd q.1 (by decide)), p539 10 f (fun q => absurd q.1 (by decide)), p510 10 f (fun q => absurd q.1 (by decide)), p481 10 f (fun q => absurd q.1 (by decide)), p452 10 f (fun q => absurd q.1 (by decide)), p423 10 f (fun q => absurd q.1 (by decide)), p394 10 f (fun q => absurd q.1 (by decide)), p365 10 f (fun q => absurd q.1 (by decide)), p336 10 f (fun q => absurd q.1 (by decide))])
