/-! add() on both sides, with its answer: SENTENCES. -/
/-- how many words from p on, behind n others; -1: it is no sentence -/
def gs_sn (β : Int → Int) (N : Int) : Nat → Int → Int → Int
  | 0, _, _ => -1
  | f + 1, p, n => if N ≤ gs_S β N p then n else if n = 24 then -1 else if gs_le β 1000 (gs_S β N p) = gs_S β N p ∨ 24 < gs_le β 1000 (gs_S β N p) - gs_S β N p then -1 else gs_sn β N f (gs_le β 1000 (gs_S β N p)) (n + 1)
theorem gs_sn_u (β : Int → Int) (N : Int) (f : Nat) (p n : Int) : gs_sn β N (f + 1) p n = (if N ≤ gs_S β N p then n else if n = 24 then -1 else if gs_le β 1000 (gs_S β N p) = gs_S β N p ∨ 24 < gs_le β 1000 (gs_S β N p) - gs_S β N p then -1 else gs_sn β N f (gs_le β 1000 (gs_S β N p)) (n + 1)) := rfl
theorem gs_sn_b {β : Int → Int} {N p n : Int} {f : Nat} (hp : p < N) (hN : N ≤ 1000) (hb : β p = 32) : gs_sn β N f p n = gs_sn β N f (p + 1) n := by
  cases f with
  | zero => rfl
  | succ f => rw [gs_sn_u, gs_sn_u, gs_S_s hp hN hb]
theorem gs_sn_e {β : Int → Int} {N p n : Int} (h : N ≤ p) (hn : n ≤ 24) : gs_sn β N (Int.toNat (25 - n)) p n = n := by
  rw [show Int.toNat (25 - n) = Int.toNat (24 - n) + 1 from by omega, gs_sn_u, gs_S_e (by omega), if_pos h]
theorem gs_sn_x {β : Int → Int} {N p n q : Int} (hS : gs_S β N p = p) (hN : p < N) (hn : n ≤ 24) (hq : gs_le β 1000 p = q) (h : n = 24 ∨ q = p ∨ 24 < q - p) : gs_sn β N (Int.toNat (25 - n)) p n = -1 := by
  rw [show Int.toNat (25 - n) = Int.toNat (24 - n) + 1 from by omega, gs_sn_u, hS, hq, if_neg (show ¬ N ≤ p by omega)]
  by_cases c : n = 24
  · rw [if_pos c]
  · rw [if_neg c, if_pos (show q = p ∨ 24 < q - p by omega)]
theorem gs_sn_w {β : Int → Int} {N p n q : Int} (hS : gs_S β N p = p) (hN : p < N) (hn : n < 24) (hq : gs_le β 1000 p = q) (h1 : ¬ q = p) (h2 : q - p ≤ 24) : gs_sn β N (Int.toNat (25 - n)) p n = gs_sn β N (Int.toNat (25 - (n + 1))) q (n + 1) := by
  rw [show Int.toNat (25 - n) = Int.toNat (25 - (n + 1)) + 1 from by omega, gs_sn_u, hS, hq, if_neg (show ¬ N ≤ p by omega), if_neg (show ¬ n = 24 by omega), if_neg (show ¬ (q = p ∨ 24 < q - p) by omega)]
theorem gs_le_ge {β : Int → Int} : ∀ (f : Nat) (k : Int), k ≤ gs_le β f k
  | 0, k => Int.le_refl _
  | f + 1, k => by
    show k ≤ (if 97 ≤ β k ∧ β k ≤ 122 then gs_le β f (k + 1) else k)
    split
    · have := gs_le_ge (β := β) f (k + 1)
      omega
    · omega
/-- the answer of a look at a sentence -/
def gs_SZ (β : Int → Int) (N z : Int) : Prop := (z = 1 ∧ 1 ≤ gs_sn β N 25 0 0) ∨ (z = 0 ∧ gs_sn β N 25 0 0 ≤ 0)
theorem gs_SZ_1 {β : Int → Int} {N : Int} (h : 1 ≤ gs_sn β N 25 0 0) : gs_SZ β N 1 := Or.inl ⟨rfl, h⟩
theorem gs_SZ_0 {β : Int → Int} {N : Int} (h : gs_sn β N 25 0 0 ≤ 0) : gs_SZ β N 0 := Or.inr ⟨rfl, h⟩
theorem gs_SZ_y {β : Int → Int} {N z : Int} (h : gs_SZ β N z) (h1 : ¬ z = 0) : 1 ≤ gs_sn β N 25 0 0 := by
  unfold gs_SZ at h
  omega
theorem gs_SZ_n {β : Int → Int} {N z : Int} (h : gs_SZ β N z) (h1 : z = 0) : gs_sn β N 25 0 0 ≤ 0 := by
  unfold gs_SZ at h
  omega
set_option maxHeartbeats 4000000 in
set_option maxRecDepth 100000 in
theorem d_X9_split_p {ws0 : List Cond} {tb : String → gz_T} (hws : gc_Ws ws0) (htb : gc_tbs tb) (sh : gz_Sh) (ro : Nat → Nat) (I : gr_I) (J : gr_J) (A : gc_A) (hI : gc_Inv ro I) (p : Nat) (β : Int → Int) (η : Int) (hp : gc_isText sh ro A p) (x0 : gs_TX β η (I (p + 1))) (x1 : η = I p 1) : ∃ r h', gz_Ev ws0 tb 2 (yX9_split, cX9_split, 4, (some .boolean)) [.inr (.inr (some p))] sh (gc_h sh I J A) r sh h' 0 0 ∧ (∃ (I' : gr_I) (J' : gr_J), h' = gc_h sh I' J' A ∧ gc_Inv ro I' ∧ (∀ q j : Nat, ((q = p ∧ j = 4) ∨ q = (p + 2) ∨ q = (p + 3)) ∨ I' q j = I q j) ∧ (∀ q j : Nat, (False) ∨ J' q j = J q j) ∧ (∃ z : Int, r = some (.inl z) ∧ 0 ≤ z ∧ z ≤ 1 ∧ (gc_SP p I') ∧ (z = 0 ∨ 1 ≤ I' p 4) ∧ (I' p 1 = I p 1) ∧ gs_SZ β η z)) := by
  have FI : ∀ q j : Nat, ((q = p ∧ j = 4) ∨ q = (p + 2) ∨ q = (p + 3)) ∨ I q j = I q j := fun _ _ => Or.inr rfl
  have FJ : ∀ q j : Nat, (False) ∨ J q j = J q j := fun _ _ => Or.inr rfl
  obtain ⟨S_p, R_p, B_p, A_p_0, S_p_1, R_p_1, B_p_1, A_p_2, S_p_2, R_p_2, B_p_2, A_p_3, S_p_3, R_p_3, B_p_3⟩ := id hp
  have hD : gv_D (gc_E9 ws0 tb 1 (yX9_split, cX9_split, 4, (some .boolean)) kX9_split) := gq_ok oX9_split
  refine gc_ev9 (d := 1) (l := kX9_split) (Po := fun r h' => (∃ (I' : gr_I) (J' : gr_J), h' = gc_h sh I' J' A ∧ gc_Inv ro I' ∧ (∀ q j : Nat, ((q = p ∧ j = 4) ∨ q = (p + 2) ∨ q = (p + 3)) ∨ I' q j = I q j) ∧ (∀ q j : Nat, (False) ∨ J' q j = J q j) ∧ (∃ z : Int, r = some (.inl z) ∧ 0 ≤ z ∧ z ≤ 1 ∧ (gc_SP p I') ∧ (z = 0 ∨ 1 ≤ I' p 4) ∧ (I' p 1 = I p 1) ∧ gs_SZ β η z))) htb rfl (Nat.le_of_ble_eq_true rfl) ?_
  have N_p__p_2 : ¬ (p = (p + 2)) := by omega
  have N_p__p_3 : ¬ (p = (p + 3)) := by omega
  have f1 := (show 0 ≤ I p 1 ∧ I p 1 ≤ 1000 from gc_in hI R_p rfl rfl)
  have f2 := (show 0 ≤ I p 4 ∧ I p 4 ≤ 24 from gc_in hI R_p rfl rfl)
  have L9 : ∀ (n9 : Nat) (I3 : gr_I) (J4 : gr_J) (v1_5 : Int) (v2_5 : Int), (1001 - v2_5).toNat < n9 → gc_Inv ro I3 → (∀ q j : Nat, ((q = p ∧ j = 4) ∨ q = (p + 2) ∨ q = (p + 3)) ∨ I3 q j = I q j) → (∀ q j : Nat, (False) ∨ J4 q j = J q j) → ((0 ≤ v1_5 ∧ v1_5 ≤ 24) ∧ (0 ≤ v2_5 ∧ v2_5 ≤ 1000) ∧ (v2_5 ≤ I3 p 1) ∧ (I3 p 4 = 0) ∧ (I3 p 1 = I p 1)) → (gc_spn p I3 v1_5) → (gs_sn β η 25 0 0 = gs_sn β η (Int.toNat (25 - v1_5)) v2_5 v1_5) → gv_X (gc_E9 ws0 tb 1 (yX9_split, cX9_split, 4, (some .boolean)) kX9_split) (gv_Q cX9_split (some .boolean) sh (fun r h' => (∃ (I' : gr_I) (J' : gr_J), h' = gc_h sh I' J' A ∧ gc_Inv ro I' ∧ (∀ q j : Nat, ((q = p ∧ j = 4) ∨ q = (p + 2) ∨ q = (p + 3)) ∨ I' q j = I q j) ∧ (∀ q j : Nat, (False) ∨ J' q j = J q j) ∧ (∃ z : Int, r = some (.inl z) ∧ 0 ≤ z ∧ z ≤ 1 ∧ (gc_SP p I') ∧ (z = 0 ∨ 1 ≤ I' p 4) ∧ (I' p 1 = I p 1) ∧ gs_SZ β η z)))) (9, [(0, .inr (.inr (some p))), (1, .inl v1_5), (2, .inl v2_5)], [], sh, gc_h sh I3 J4 A) := by
    intro n9
    induction n9 with
    | zero => intro I3 J4 v1_5 v2_5 hn; omega
    | succ n9 ih9 =>
      intro I3 J4 v1_5 v2_5 hn hI3 FI3 FJ4 m_5 e0_5 w_5
      obtain ⟨hv1_5, hv2_5, e1_5, e2_5, e3_5⟩ := m_5
      have f6 := (show 0 ≤ I3 p 1 ∧ I3 p 1 ≤ 1000 from gc_in hI3 R_p rfl rfl)
      have f7 := (show 0 ≤ I3 p 4 ∧ I3 p 4 ≤ 24 from gc_in hI3 R_p rfl rfl)
      have yB : ∀ k : Int, 0 ≤ k → k < η → β k = I3 (p + 1) (Int.toNat k) := fun k h0 h1 => (gs_TX_i x0 h0 h1).trans ((FI3 (p + 1) (Int.toNat k)).resolve_left (by omega)).symm
      have L36 : ∀ (n9 : Nat) (v2_8 : Int) (v3_8 : Int), (1001 - v2_8).toNat < n9 → ((0 ≤ v1_5 ∧ v1_5 ≤ 24) ∧ (0 ≤ v2_8 ∧ v2_8 ≤ 1000) ∧ (0 ≤ v3_8 ∧ v3_8 ≤ 999) ∧ (v2_8 ≤ I3 p 1) ∧ (v3_8 ≤ v2_8) ∧ (v3_8 = v2_5)) → (gs_le β 1000 v2_5 = gs_le β (Int.toNat (v2_5 + (1000 : Nat) - v2_8)) v2_8) → (v2_5 < η ∧ ¬ β v2_5 = 32) → gv_X (gc_E9 ws0 tb 1 (yX9_split, cX9_split, 4, (some .boolean)) kX9_split) (gv_Q cX9_split (some .boolean) sh (fun r h' => (∃ (I' : gr_I) (J' : gr_J), h' = gc_h sh I' J' A ∧ gc_Inv ro I' ∧ (∀ q j : Nat, ((q = p ∧ j = 4) ∨ q = (p + 2) ∨ q = (p + 3)) ∨ I' q j = I q j) ∧ (∀ q j : Nat, (False) ∨ J' q j = J q j) ∧ (∃ z : Int, r = some (.inl z) ∧ 0 ≤ z ∧ z ≤ 1 ∧ (gc_SP p I') ∧ (z = 0 ∨ 1 ≤ I' p 4) ∧ (I' p 1 = I p 1) ∧ gs_SZ β η z)))) (36, [(0, .inr (.inr (some p))), (1, .inl v1_5), (2, .inl v2_8), (3, .inl v3_8)], [], sh, gc_h sh I3 J4 A) := by
        intro n9
        induction n9 with
        | zero => intro v2_8 v3_8 hn; omega
        | succ n9 ih36 =>
          intro v2_8 v3_8 hn m_8 k_8 b_8
          obtain ⟨hv1_5_8, hv2_8, hv3_8, e0_8, e1_8, e2_8⟩ := m_8
          have f9 := (show 0 ≤ I3 p 1 ∧ I3 p 1 ≤ 1000 from gc_in hI3 R_p rfl rfl)
          have f10 := (show 0 ≤ I3 p 4 ∧ I3 p 4 ≤ 24 from gc_in hI3 R_p rfl rfl)
          have L62 : ((0 ≤ v1_5 ∧ v1_5 ≤ 24) ∧ (0 ≤ v2_8 ∧ v2_8 ≤ 1000) ∧ (0 ≤ v3_8 ∧ v3_8 ≤ 999) ∧ (v2_8 ≤ I3 p 1) ∧ (v3_8 ≤ v2_8) ∧ (v3_8 = v2_5)) → (gs_le β 1000 v2_5 = v2_8) → gv_X (gc_E9 ws0 tb 1 (yX9_split, cX9_split, 4, (some .boolean)) kX9_split) (gv_Q cX9_split (some .boolean) sh (fun r h' => (∃ (I' : gr_I) (J' : gr_J), h' = gc_h sh I' J' A ∧ gc_Inv ro I' ∧ (∀ q j : Nat, ((q = p ∧ j = 4) ∨ q = (p + 2) ∨ q = (p + 3)) ∨ I' q j = I q j) ∧ (∀ q j : Nat, (False) ∨ J' q j = J q j) ∧ (∃ z : Int, r = some (.inl z) ∧ 0 ≤ z ∧ z ≤ 1 ∧ (gc_SP p I') ∧ (z = 0 ∨ 1 ≤ I' p 4) ∧ (I' p 1 = I p 1) ∧ gs_SZ β η z)))) (62, [(0, .inr (.inr (some p))), (1, .inl v1_5), (2, .inl v2_8), (3, .inl v3_8)], [], sh, gc_h sh I3 J4 A) := by
            intro m_11 k_11
            obtain ⟨hv1_5_11, hv2_8_11, hv3_8_11, e0_11, e1_11, e2_11⟩ := m_11
            have f12 := (show 0 ≤ I3 p 1 ∧ I3 p 1 ≤ 1000 from gc_in hI3 R_p rfl rfl)
            have f13 := (show 0 ≤ I3 p 4 ∧ I3 p 4 ≤ 24 from gc_in hI3 R_p rfl rfl)
            have L81 : ((I3 p 4 = 0) ∧ (I3 p 1 = I p 1)) → gs_sn β η 25 0 0 ≤ 0 → gv_X (gc_E9 ws0 tb 1 (yX9_split, cX9_split, 4, (some .boolean)) kX9_split) (gv_Q cX9_split (some .boolean) sh (fun r h' => (∃ (I' : gr_I) (J' : gr_J), h' = gc_h sh I' J' A ∧ gc_Inv ro I' ∧ (∀ q j : Nat, ((q = p ∧ j = 4) ∨ q = (p + 2) ∨ q = (p + 3)) ∨ I' q j = I q j) ∧ (∀ q j : Nat, (False) ∨ J' q j = J q j) ∧ (∃ z : Int, r = some (.inl z) ∧ 0 ≤ z ∧ z ≤ 1 ∧ (gc_SP p I') ∧ (z = 0 ∨ 1 ≤ I' p 4) ∧ (I' p 1 = I p 1) ∧ gs_SZ β η z)))) (81, [], [], sh, gc_h sh I3 J4 A) := by
              intro m_14 n_14
              obtain ⟨e0_14, e1_14⟩ := m_14
              have f15 := (show 0 ≤ I3 p 1 ∧ I3 p 1 ≤ 1000 from gc_in hI3 R_p rfl rfl)
              have f16 := (show 0 ≤ I3 p 4 ∧ I3 p 4 ≤ 24 from gc_in hI3 R_p rfl rfl)
              refine gv_run 1 true hD (pc' := 82) (lv' := []) (st' := [.inl 0]) (h' := gc_h sh I3 J4 A) (C := (True ∧ True)) rfl ⟨trivial, trivial⟩ ?_
              exact gv_zret hD rfl (by omega) ⟨I3, J4, rfl, hI3, FI3, FJ4, ⟨_, rfl, by omega, by omega, (fun k hk => by omega), by omega, by omega, gs_SZ_0 n_14⟩⟩
            refine gv_run 2 true hD (pc' := 64) (lv' := [(0, .inr (.inr (some p))), (1, .inl v1_5), (2, .inl v2_8), (3, .inl v3_8)]) (st' := [.inl v3_8, .inl v2_8]) (h' := gc_h sh I3 J4 A) (C := ((True ∧ True) ∧ True)) rfl ⟨⟨trivial, trivial⟩, trivial⟩ ?_
            refine gv_icmp_eq (t := 81) hD rfl rfl ⟨⟨by omega, by omega⟩, ⟨by omega, by omega⟩⟩ (fun c17 => ?_) (fun c17 => ?_)
            · show gv_X _ _ (81, [(0, .inr (.inr (some p))), (1, .inl v1_5), (2, .inl v2_8), (3, .inl v3_8)], [], sh, gc_h sh I3 J4 A)
              refine gv_pick [] rfl ?_
              exact L81 (by omega) (by have h9 := gs_sn_x (n := v1_5) (gs_S_e (by omega)) b_8.1 (by omega) k_11 (by omega); omega)
            · show gv_X _ _ (67, [(0, .inr (.inr (some p))), (1, .inl v1_5), (2, .inl v2_8), (3, .inl v3_8)], [], sh, gc_h sh I3 J4 A)
              refine gv_run 4 true hD (pc' := 72) (lv' := [(0, .inr (.inr (some p))), (1, .inl v1_5), (2, .inl v2_8), (3, .inl v3_8)]) (st' := [.inl 24, .inl (v2_8 - v3_8)]) (h' := gc_h sh I3 J4 A) (C := ((((True ∧ True) ∧ True) ∧ True) ∧ True)) rfl ⟨⟨⟨⟨trivial, trivial⟩, trivial⟩, trivial⟩, trivial⟩ ?_
              refine gv_icmp_gt (t := 81) hD rfl rfl ⟨⟨by omega, by omega⟩, ⟨by omega, by omega⟩⟩ (fun c18 => ?_) (fun c18 => ?_)
              · show gv_X _ _ (81, [(0, .inr (.inr (some p))), (1, .inl v1_5), (2, .inl v2_8), (3, .inl v3_8)], [], sh, gc_h sh I3 J4 A)
                refine gv_pick [] rfl ?_
                exact L81 (by omega) (by have h9 := gs_sn_x (n := v1_5) (gs_S_e (by omega)) b_8.1 (by omega) k_11 (by omega); omega)
              · show gv_X _ _ (75, [(0, .inr (.inr (some p))), (1, .inl v1_5), (2, .inl v2_8), (3, .inl v3_8)], [], sh, gc_h sh I3 J4 A)
                refine gv_run 2 true hD (pc' := 78) (lv' := [(0, .inr (.inr (some p))), (1, .inl v1_5), (2, .inl v2_8), (3, .inl v3_8)]) (st' := [.inl 24, .inl v1_5]) (h' := gc_h sh I3 J4 A) (C := ((True ∧ True) ∧ True)) rfl ⟨⟨trivial, trivial⟩, trivial⟩ ?_
                refine gv_icmp_ne (t := 83) hD rfl rfl ⟨⟨by omega, by omega⟩, ⟨by omega, by omega⟩⟩ (fun c19 => ?_) (fun c19 => ?_)
                · show gv_X _ _ (83, [(0, .inr (.inr (some p))), (1, .inl v1_5), (2, .inl v2_8), (3, .inl v3_8)], [], sh, gc_h sh I3 J4 A)
                  refine gv_run 1 true hD (pc' := 84) (lv' := [(0, .inr (.inr (some p))), (1, .inl v1_5), (2, .inl v2_8), (3, .inl v3_8)]) (st' := [.inr (.inr (some p))]) (h' := gc_h sh I3 J4 A) (C := (True ∧ True)) rfl ⟨trivial, trivial⟩ ?_
                  refine gv_get hD rfl rfl S_p ⟨by decide, B_p⟩ (gc_hA S_p rfl A_p_2) ?_
                  show gv_X _ _ (87, [(0, .inr (.inr (some p))), (1, .inl v1_5), (2, .inl v2_8), (3, .inl v3_8)], [.inr (.inr (some (p + 2)))], sh, gc_h sh I3 J4 A)
                  refine gv_run 2 true hD (pc' := 89) (lv' := [(0, .inr (.inr (some p))), (1, .inl v1_5), (2, .inl v2_8), (3, .inl v3_8)]) (st' := [.inl v3_8, .inl v1_5, .inr (.inr (some (p + 2)))]) (h' := gc_h sh I3 J4 A) (C := ((True ∧ True) ∧ True)) rfl ⟨⟨trivial, trivial⟩, trivial⟩ ?_
                  refine gv_iast hD rfl S_p_2 ⟨by decide, B_p_2⟩ ⟨by omega, by omega⟩ ?_
                  refine gc_st hI3 S_p_2 rfl R_p_2 (lo := 0) (hi := 1000) rfl rfl (by omega) (by omega) (fun I20 hI20 q21 p21 => ?_)
                  have FI20 := gc_frs (W := fun q j => (q = p ∧ j = 4) ∨ q = (p + 2) ∨ q = (p + 3)) FI3 (Or.inr (Or.inl rfl)) p21
                  have t22 := p21 p 1 (fun h => absurd h.1 N_p__p_2)
                  have t23 := p21 p 4 (fun h => absurd h.1 N_p__p_2)
                  show gv_X _ _ (90, [(0, .inr (.inr (some p))), (1, .inl v1_5), (2, .inl v2_8), (3, .inl v3_8)], [], sh, gc_h sh I20 J4 A)
                  refine gv_run 1 true hD (pc' := 91) (lv' := [(0, .inr (.inr (some p))), (1, .inl v1_5), (2, .inl v2_8), (3, .inl v3_8)]) (st' := [.inr (.inr (some p))]) (h' := gc_h sh I20 J4 A) (C := (True ∧ True)) rfl ⟨trivial, trivial⟩ ?_
                  refine gv_get hD rfl rfl S_p ⟨by decide, B_p⟩ (gc_hA S_p rfl A_p_3) ?_
                  show gv_X _ _ (94, [(0, .inr (.inr (some p))), (1, .inl v1_5), (2, .inl v2_8), (3, .inl v3_8)], [.inr (.inr (some (p + 3)))], sh, gc_h sh I20 J4 A)
                  refine gv_run 4 true hD (pc' := 98) (lv' := [(0, .inr (.inr (some p))), (1, .inl v1_5), (2, .inl v2_8), (3, .inl v3_8)]) (st' := [.inl (v2_8 - v3_8), .inl v1_5, .inr (.inr (some (p + 3)))]) (h' := gc_h sh I20 J4 A) (C := ((((True ∧ True) ∧ True) ∧ True) ∧ True)) rfl ⟨⟨⟨⟨trivial, trivial⟩, trivial⟩, trivial⟩, trivial⟩ ?_
                  refine gv_iast hD rfl S_p_3 ⟨by decide, B_p_3⟩ ⟨by omega, by omega⟩ ?_
                  refine gc_st hI20 S_p_3 rfl R_p_3 (lo := 0) (hi := 24) rfl rfl (by omega) (by omega) (fun I24 hI24 q25 p25 => ?_)
                  have FI24 := gc_frs (W := fun q j => (q = p ∧ j = 4) ∨ q = (p + 2) ∨ q = (p + 3)) FI20 (Or.inr (Or.inr rfl)) p25
                  have t26 := p25 p 1 (fun h => absurd h.1 N_p__p_3)
                  have t27 := p25 p 4 (fun h => absurd h.1 N_p__p_3)
                  show gv_X _ _ (99, [(0, .inr (.inr (some p))), (1, .inl v1_5), (2, .inl v2_8), (3, .inl v3_8)], [], sh, gc_h sh I24 J4 A)
                  refine gv_run 2 true hD (pc' := 9) (lv' := [(1, .inl (v1_5 + 1)), (0, .inr (.inr (some p))), (2, .inl v2_8), (3, .inl v3_8)]) (st' := []) (h' := gc_h sh I24 J4 A) (C := ((True ∧ True) ∧ True)) rfl ⟨⟨trivial, trivial⟩, trivial⟩ ?_
                  refine gv_pick [1, 0, 2] rfl ?_
                  exact ih9 I24 J4 (v1_5 + 1) v2_8 (by omega) hI24 FI24 FJ4 (by omega) (gc_spn_push e0_5 (by omega) p21 p25 (by omega)) (w_5.trans (gs_sn_w (gs_S_e (by omega)) b_8.1 (by omega) k_11 (by omega) (by omega)))
                · show gv_X _ _ (81, [(0, .inr (.inr (some p))), (1, .inl v1_5), (2, .inl v2_8), (3, .inl v3_8)], [], sh, gc_h sh I3 J4 A)
                  refine gv_pick [] rfl ?_
                  exact L81 (by omega) (by have h9 := gs_sn_x (n := v1_5) (gs_S_e (by omega)) b_8.1 (by omega) k_11 (by omega); omega)
          refine gv_run 2 true hD (pc' := 38) (lv' := [(0, .inr (.inr (some p))), (1, .inl v1_5), (2, .inl v2_8), (3, .inl v3_8)]) (st' := [.inr (.inr (some p)), .inl v2_8]) (h' := gc_h sh I3 J4 A) (C := ((True ∧ True) ∧ True)) rfl ⟨⟨trivial, trivial⟩, trivial⟩ ?_
          have f28 := (show 0 ≤ I3 p 1 ∧ I3 p 1 ≤ 1000 from gc_in hI3 R_p rfl rfl)
          refine gv_get hD rfl rfl S_p ⟨by decide, B_p⟩ (gc_hI S_p rfl) ?_
          show gv_X _ _ (41, [(0, .inr (.inr (some p))), (1, .inl v1_5), (2, .inl v2_8), (3, .inl v3_8)], [.inl (I3 p 1), .inl v2_8], sh, gc_h sh I3 J4 A)
          refine gv_icmp_ge (t := 62) hD rfl rfl ⟨⟨by omega, by omega⟩, ⟨by omega, by omega⟩⟩ (fun c29 => ?_) (fun c29 => ?_)
          · show gv_X _ _ (62, [(0, .inr (.inr (some p))), (1, .inl v1_5), (2, .inl v2_8), (3, .inl v3_8)], [], sh, gc_h sh I3 J4 A)
            exact L62 (by omega) (k_8.trans (gs_le_e (Or.inr (by rw [gs_TX_o x0 (k := v2_8) (by omega)]; omega))))
          · show gv_X _ _ (44, [(0, .inr (.inr (some p))), (1, .inl v1_5), (2, .inl v2_8), (3, .inl v3_8)], [], sh, gc_h sh I3 J4 A)
            refine gv_run 1 true hD (pc' := 45) (lv' := [(0, .inr (.inr (some p))), (1, .inl v1_5), (2, .inl v2_8), (3, .inl v3_8)]) (st' := [.inr (.inr (some p))]) (h' := gc_h sh I3 J4 A) (C := (True ∧ True)) rfl ⟨trivial, trivial⟩ ?_
            refine gv_get hD rfl rfl S_p ⟨by decide, B_p⟩ (gc_hA S_p rfl A_p_0) ?_
            show gv_X _ _ (48, [(0, .inr (.inr (some p))), (1, .inl v1_5), (2, .inl v2_8), (3, .inl v3_8)], [.inr (.inr (some (p + 1)))], sh, gc_h sh I3 J4 A)
            refine gv_run 1 true hD (pc' := 49) (lv' := [(0, .inr (.inr (some p))), (1, .inl v1_5), (2, .inl v2_8), (3, .inl v3_8)]) (st' := [.inl v2_8, .inr (.inr (some (p + 1)))]) (h' := gc_h sh I3 J4 A) (C := (True ∧ True)) rfl ⟨trivial, trivial⟩ ?_
            have f30 := (show (-128) ≤ I3 (p + 1) (Int.toNat v2_8) ∧ I3 (p + 1) (Int.toNat v2_8) ≤ 127 from gc_in hI3 R_p_1 rfl rfl)
            refine gv_bald hD rfl S_p_1 (Or.inl rfl) ⟨by decide, B_p_1⟩ ⟨by omega, by omega⟩ (gc_iI S_p_1 rfl) ?_
            show gv_X _ _ (50, [(0, .inr (.inr (some p))), (1, .inl v1_5), (2, .inl v2_8), (3, .inl v3_8)], [.inl (I3 (p + 1) (Int.toNat v2_8))], sh, gc_h sh I3 J4 A)
            obtain ⟨r31, h31, E31, P31⟩ := d_X9_isLetter_p (ws0 := ws0) (tb := tb) hws htb sh ro I3 J4 A hI3  ((I3 (p + 1) (Int.toNat v2_8)))    ⟨by omega, by omega⟩  
            obtain ⟨rfl, ⟨z31, rfl, q31⟩⟩ := P31
            refine gv_callS hD rfl (As := [.inl (I3 (p + 1) (Int.toNat v2_8))]) (st := []) rfl (gc_lS9 hws rfl) (Nat.le_of_ble_eq_true rfl) (gz_Ev_mono (d := 1) (by decide) E31) ?_
            show gv_X _ _ (53, [(0, .inr (.inr (some p))), (1, .inl v1_5), (2, .inl v2_8), (3, .inl v3_8)], [.inl z31], sh, gc_h sh I3 J4 A)
            refine gv_if_eq (t := 62) hD rfl rfl ⟨by omega, by omega⟩ (fun c32 => ?_) (fun c32 => ?_)
            · show gv_X _ _ (62, [(0, .inr (.inr (some p))), (1, .inl v1_5), (2, .inl v2_8), (3, .inl v3_8)], [], sh, gc_h sh I3 J4 A)
              exact L62 (by omega) (k_8.trans (gs_le_e (Or.inr (by rw [yB v2_8 (by omega) (by omega)]; omega))))
            · show gv_X _ _ (56, [(0, .inr (.inr (some p))), (1, .inl v1_5), (2, .inl v2_8), (3, .inl v3_8)], [], sh, gc_h sh I3 J4 A)
              refine gv_run 2 true hD (pc' := 36) (lv' := [(2, .inl (v2_8 + 1)), (0, .inr (.inr (some p))), (1, .inl v1_5), (3, .inl v3_8)]) (st' := []) (h' := gc_h sh I3 J4 A) (C := ((True ∧ True) ∧ True)) rfl ⟨⟨trivial, trivial⟩, trivial⟩ ?_
              refine gv_pick [1, 2, 0, 3] rfl ?_
              exact ih36 (v2_8 + 1) v3_8 (by omega) (by omega) (k_8.trans (gs_le_s (by omega) (by rw [yB v2_8 (by omega) (by omega)]; omega))) b_8
      have L119 : ∀ (I33 : gr_I) (J34 : gr_J) (s0_35 : Int), gc_Inv ro I33 → (∀ q j : Nat, ((q = p ∧ j = 4) ∨ q = (p + 2) ∨ q = (p + 3)) ∨ I33 q j = I q j) → (∀ q j : Nat, (False) ∨ J34 q j = J q j) → ((0 ≤ s0_35 ∧ s0_35 ≤ 1) ∧ (s0_35 = 0 ∨ 1 ≤ I33 p 4) ∧ (I33 p 1 = I p 1)) → (gc_SP p I33) → gs_SZ β η s0_35 → gv_X (gc_E9 ws0 tb 1 (yX9_split, cX9_split, 4, (some .boolean)) kX9_split) (gv_Q cX9_split (some .boolean) sh (fun r h' => (∃ (I' : gr_I) (J' : gr_J), h' = gc_h sh I' J' A ∧ gc_Inv ro I' ∧ (∀ q j : Nat, ((q = p ∧ j = 4) ∨ q = (p + 2) ∨ q = (p + 3)) ∨ I' q j = I q j) ∧ (∀ q j : Nat, (False) ∨ J' q j = J q j) ∧ (∃ z : Int, r = some (.inl z) ∧ 0 ≤ z ∧ z ≤ 1 ∧ (gc_SP p I') ∧ (z = 0 ∨ 1 ≤ I' p 4) ∧ (I' p 1 = I p 1) ∧ gs_SZ β η z)))) (119, [], [.inl s0_35], sh, gc_h sh I33 J34 A) := by
        intro I33 J34 s0_35 hI33 FI33 FJ34 m_35 e0_35 z_35
        clear hv1_5 hv2_5 e1_5 e2_5 e3_5 f6 f7
        obtain ⟨hs0_35, e1_35, e2_35⟩ := m_35
        have f36 := (show 0 ≤ I33 p 1 ∧ I33 p 1 ≤ 1000 from gc_in hI33 R_p rfl rfl)
        have f37 := (show 0 ≤ I33 p 4 ∧ I33 p 4 ≤ 24 from gc_in hI33 R_p rfl rfl)
        exact gv_zret hD rfl (by omega) ⟨I33, J34, rfl, hI33, FI33, FJ34, ⟨_, rfl, by omega, by omega, e0_35, by omega, by omega, z_35⟩⟩
      refine gv_run 2 true hD (pc' := 11) (lv' := [(0, .inr (.inr (some p))), (1, .inl v1_5), (2, .inl v2_5)]) (st' := [.inr (.inr (some p)), .inl v2_5]) (h' := gc_h sh I3 J4 A) (C := ((True ∧ True) ∧ True)) rfl ⟨⟨trivial, trivial⟩, trivial⟩ ?_
      have f38 := (show 0 ≤ I3 p 1 ∧ I3 p 1 ≤ 1000 from gc_in hI3 R_p rfl rfl)
      refine gv_get hD rfl rfl S_p ⟨by decide, B_p⟩ (gc_hI S_p rfl) ?_
      show gv_X _ _ (14, [(0, .inr (.inr (some p))), (1, .inl v1_5), (2, .inl v2_5)], [.inl (I3 p 1), .inl v2_5], sh, gc_h sh I3 J4 A)
      refine gv_icmp_ge (t := 105) hD rfl rfl ⟨⟨by omega, by omega⟩, ⟨by omega, by omega⟩⟩ (fun c39 => ?_) (fun c39 => ?_)
      · show gv_X _ _ (105, [(0, .inr (.inr (some p))), (1, .inl v1_5), (2, .inl v2_5)], [], sh, gc_h sh I3 J4 A)
        refine gv_run 2 true hD (pc' := 107) (lv' := [(0, .inr (.inr (some p))), (1, .inl v1_5), (2, .inl v2_5)]) (st' := [.inl v1_5, .inr (.inr (some p))]) (h' := gc_h sh I3 J4 A) (C := ((True ∧ True) ∧ True)) rfl ⟨⟨trivial, trivial⟩, trivial⟩ ?_
        refine gv_put hD rfl rfl S_p ⟨by decide, B_p⟩ rfl trivial ?_
        refine gc_st (k := 4) hI3 S_p rfl R_p (lo := 0) (hi := 24) rfl rfl (by omega) (by omega) (fun I40 hI40 q41 p41 => ?_)
        have FI40 := gc_frs (W := fun q j => (q = p ∧ j = 4) ∨ q = (p + 2) ∨ q = (p + 3)) FI3 (Or.inl ⟨rfl, rfl⟩) p41
        have t42 := p41 p 1 (fun h => absurd h.2 (by decide))
        have f43 := (show 0 ≤ I40 p 4 ∧ I40 p 4 ≤ 24 from gc_in hI40 R_p rfl rfl)
        show gv_X _ _ (110, [(0, .inr (.inr (some p))), (1, .inl v1_5), (2, .inl v2_5)], [], sh, gc_h sh I40 J4 A)
        refine gv_run 1 true hD (pc' := 111) (lv' := [(0, .inr (.inr (some p))), (1, .inl v1_5), (2, .inl v2_5)]) (st' := [.inl v1_5]) (h' := gc_h sh I40 J4 A) (C := (True ∧ True)) rfl ⟨trivial, trivial⟩ ?_
        refine gv_if_le (t := 118) hD rfl rfl ⟨by omega, by omega⟩ (fun c44 => ?_) (fun c44 => ?_)
        · show gv_X _ _ (118, [(0, .inr (.inr (some p))), (1, .inl v1_5), (2, .inl v2_5)], [], sh, gc_h sh I40 J4 A)
          refine gv_run 1 true hD (pc' := 119) (lv' := [(0, .inr (.inr (some p))), (1, .inl v1_5), (2, .inl v2_5)]) (st' := [.inl 0]) (h' := gc_h sh I40 J4 A) (C := (True ∧ True)) rfl ⟨trivial, trivial⟩ ?_
          refine gv_pick [] rfl ?_
          exact L119 I40 J4 0 hI40 FI40 FJ4 (by omega) (fun k hk => by rw [p41 (p + 2) k (fun h => absurd h.1 (by omega)), p41 (p + 3) k (fun h => absurd h.1 (by omega))]; exact e0_5 k (by omega)) (gs_SZ_0 (by have h9 := gs_sn_e (β := β) (N := η) (p := v2_5) (n := v1_5) (by omega) (by omega); omega))
        · show gv_X _ _ (114, [(0, .inr (.inr (some p))), (1, .inl v1_5), (2, .inl v2_5)], [], sh, gc_h sh I40 J4 A)
          refine gv_run 2 true hD (pc' := 119) (lv' := [(0, .inr (.inr (some p))), (1, .inl v1_5), (2, .inl v2_5)]) (st' := [.inl 1]) (h' := gc_h sh I40 J4 A) (C := ((True ∧ True) ∧ True)) rfl ⟨⟨trivial, trivial⟩, trivial⟩ ?_
          refine gv_pick [] rfl ?_
          exact L119 I40 J4 1 hI40 FI40 FJ4 (by omega) (fun k hk => by rw [p41 (p + 2) k (fun h => absurd h.1 (by omega)), p41 (p + 3) k (fun h => absurd h.1 (by omega))]; exact e0_5 k (by omega)) (gs_SZ_1 (by have h9 := gs_sn_e (β := β) (N := η) (p := v2_5) (n := v1_5) (by omega) (by omega); omega))
      · show gv_X _ _ (17, [(0, .inr (.inr (some p))), (1, .inl v1_5), (2, .inl v2_5)], [], sh, gc_h sh I3 J4 A)
        refine gv_run 1 true hD (pc' := 18) (lv' := [(0, .inr (.inr (some p))), (1, .inl v1_5), (2, .inl v2_5)]) (st' := [.inr (.inr (some p))]) (h' := gc_h sh I3 J4 A) (C := (True ∧ True)) rfl ⟨trivial, trivial⟩ ?_
        refine gv_get hD rfl rfl S_p ⟨by decide, B_p⟩ (gc_hA S_p rfl A_p_0) ?_
        show gv_X _ _ (21, [(0, .inr (.inr (some p))), (1, .inl v1_5), (2, .inl v2_5)], [.inr (.inr (some (p + 1)))], sh, gc_h sh I3 J4 A)
        refine gv_run 1 true hD (pc' := 22) (lv' := [(0, .inr (.inr (some p))), (1, .inl v1_5), (2, .inl v2_5)]) (st' := [.inl v2_5, .inr (.inr (some (p + 1)))]) (h' := gc_h sh I3 J4 A) (C := (True ∧ True)) rfl ⟨trivial, trivial⟩ ?_
        have f45 := (show (-128) ≤ I3 (p + 1) (Int.toNat v2_5) ∧ I3 (p + 1) (Int.toNat v2_5) ≤ 127 from gc_in hI3 R_p_1 rfl rfl)
        refine gv_bald hD rfl S_p_1 (Or.inl rfl) ⟨by decide, B_p_1⟩ ⟨by omega, by omega⟩ (gc_iI S_p_1 rfl) ?_
        show gv_X _ _ (23, [(0, .inr (.inr (some p))), (1, .inl v1_5), (2, .inl v2_5)], [.inl (I3 (p + 1) (Int.toNat v2_5))], sh, gc_h sh I3 J4 A)
        refine gv_run 1 true hD (pc' := 25) (lv' := [(0, .inr (.inr (some p))), (1, .inl v1_5), (2, .inl v2_5)]) (st' := [.inl 32, .inl (I3 (p + 1) (Int.toNat v2_5))]) (h' := gc_h sh I3 J4 A) (C := (True ∧ True)) rfl ⟨trivial, trivial⟩ ?_
        refine gv_icmp_ne (t := 34) hD rfl rfl ⟨⟨by omega, by omega⟩, ⟨by omega, by omega⟩⟩ (fun c46 => ?_) (fun c46 => ?_)
        · show gv_X _ _ (34, [(0, .inr (.inr (some p))), (1, .inl v1_5), (2, .inl v2_5)], [], sh, gc_h sh I3 J4 A)
          refine gv_run 2 true hD (pc' := 36) (lv' := [(3, .inl v2_5), (0, .inr (.inr (some p))), (1, .inl v1_5), (2, .inl v2_5)]) (st' := []) (h' := gc_h sh I3 J4 A) (C := ((True ∧ True) ∧ True)) rfl ⟨⟨trivial, trivial⟩, trivial⟩ ?_
          refine gv_pick [1, 2, 3, 0] rfl ?_
          exact L36 _ v2_5 v2_5 (Nat.lt_succ_self _) (by omega) (by rw [show Int.toNat (v2_5 + (1000 : Nat) - v2_5) = 1000 from by omega]) ⟨by omega, by rw [yB v2_5 (by omega) (by omega)]; exact c46⟩
        · show gv_X _ _ (28, [(0, .inr (.inr (some p))), (1, .inl v1_5), (2, .inl v2_5)], [], sh, gc_h sh I3 J4 A)
          refine gv_run 2 true hD (pc' := 9) (lv' := [(2, .inl (v2_5 + 1)), (0, .inr (.inr (some p))), (1, .inl v1_5)]) (st' := []) (h' := gc_h sh I3 J4 A) (C := ((True ∧ True) ∧ True)) rfl ⟨⟨trivial, trivial⟩, trivial⟩ ?_
          refine gv_pick [1, 2, 0] rfl ?_
          exact ih9 I3 J4 v1_5 (v2_5 + 1) (by omega) hI3 FI3 FJ4 (by omega) e0_5 (w_5.trans (gs_sn_b (by omega) (by omega) (by rw [yB v2_5 (by omega) (by omega)]; exact c46)))
  refine gv_run 2 true hD (pc' := 2) (lv' := [(0, .inr (.inr (some p)))]) (st' := [.inl 0, .inr (.inr (some p))]) (h' := gc_h sh I J A) (C := ((True ∧ True) ∧ True)) rfl ⟨⟨trivial, trivial⟩, trivial⟩ ?_
  refine gv_put hD rfl rfl S_p ⟨by decide, B_p⟩ rfl trivial ?_
  refine gc_st (k := 4) hI S_p rfl R_p (lo := 0) (hi := 24) rfl rfl (by omega) (by omega) (fun I47 hI47 q48 p48 => ?_)
  have FI47 := gc_frs (W := fun q j => (q = p ∧ j = 4) ∨ q = (p + 2) ∨ q = (p + 3)) FI (Or.inl ⟨rfl, rfl⟩) p48
  have t49 := p48 p 1 (fun h => absurd h.2 (by decide))
  have f50 := (show 0 ≤ I47 p 4 ∧ I47 p 4 ≤ 24 from gc_in hI47 R_p rfl rfl)
  show gv_X _ _ (5, [(0, .inr (.inr (some p)))], [], sh, gc_h sh I47 J A)
  refine gv_run 4 true hD (pc' := 9) (lv' := [(2, .inl 0), (1, .inl 0), (0, .inr (.inr (some p)))]) (st' := []) (h' := gc_h sh I47 J A) (C := ((((True ∧ True) ∧ True) ∧ True) ∧ True)) rfl ⟨⟨⟨⟨trivial, trivial⟩, trivial⟩, trivial⟩, trivial⟩ ?_
  refine gv_pick [2, 1, 0] rfl ?_
  exact L9 _ I47 J 0 0 (Nat.lt_succ_self _) hI47 FI47 FJ (by omega) (fun k hk => by omega) rfl
set_option maxHeartbeats 4000000 in
set_option maxRecDepth 100000 in
theorem d_X1_collect_t_z {ws0 : List Cond} {tb : String → gz_T} (hws : gc_Ws ws0) (htb : gc_tbs tb) (sh : gz_Sh) (ro : Nat → Nat) (I : gr_I) (J : gr_J) (A : gc_A) (hI : gc_Inv ro I) (a1 : Int) (a2 : Nat) (hb : gc_Base sh ro A) (h_a2 : gc_isText sh ro A a2) (ha1 : 0 ≤ a1 ∧ a1 ≤ 7) (x0 : I 100 9 ≤ 99)  : gv_X (gc_E1 ws0 tb 2 (yX1_collect, cX1_collect, 3, (some .int)) kX1_collect) (gv_Q cX1_collect (some .int) sh (fun r h' => (∃ (I' : gr_I) (J' : gr_J), h' = gc_h sh I' J' A ∧ gc_Inv ro I' ∧ (∀ q j : Nat, (q = 105 ∨ (q = 100 ∧ j = 9)) ∨ I' q j = I q j) ∧ (∀ q j : Nat, (False) ∨ J' q j = J q j) ∧ (∃ z : Int, r = some (.inl z) ∧ 0 ≤ z ∧ z ≤ 100 ∧ (I' 100 9 = I 100 9 + 1 ∧ z = I 100 9 + 1))))) (29, [(0, .inr (.inr (some 100))), (1, .inl a1), (2, .inr (.inr (some a2)))], [], sh, gc_h sh I J A) := by
  have FI : ∀ q j : Nat, (q = 105 ∨ (q = 100 ∧ j = 9)) ∨ I q j = I q j := fun _ _ => Or.inr rfl
  have FJ : ∀ q j : Nat, (False) ∨ J q j = J q j := fun _ _ => Or.inr rfl
  have A_100_11 : A 100 11 = some 105 := gc_bA hb rfl
  have B_100 : 100 < 1000000 := by decide
  have B_105 : 105 < 1000000 := by decide
  have R_100 : ro 100 = 75 := gc_bR hb (by decide) rfl
  have R_105 : ro 105 = 59 := gc_bR hb (by decide) rfl
  have S_100 : sh[100]? = some (false, 1, 19) := gc_bS hb rfl
  have S_105 : sh[105]? = some (true, 1, 100) := gc_bS hb rfl
  obtain ⟨S_a2, R_a2, B_a2, A_a2_0, S_a2_1, R_a2_1, B_a2_1, A_a2_2, S_a2_2, R_a2_2, B_a2_2, A_a2_3, S_a2_3, R_a2_3, B_a2_3⟩ := id h_a2
  have hD : gv_D (gc_E1 ws0 tb 2 (yX1_collect, cX1_collect, 3, (some .int)) kX1_collect) := gq_ok oX1_collect
  have f1 := (show 0 ≤ I 100 9 ∧ I 100 9 ≤ 100 from gc_in hI R_100 rfl rfl)
  refine gv_run 1 true hD (pc' := 30) (lv' := [(0, .inr (.inr (some 100))), (1, .inl a1), (2, .inr (.inr (some a2)))]) (st' := [.inr (.inr (some 100))]) (h' := gc_h sh I J A) (C := (True ∧ True)) rfl ⟨trivial, trivial⟩ ?_
  refine gv_get hD rfl rfl S_100 ⟨by decide, B_100⟩ (gc_hA S_100 rfl A_100_11) ?_
  show gv_X _ _ (33, [(0, .inr (.inr (some 100))), (1, .inl a1), (2, .inr (.inr (some a2)))], [.inr (.inr (some 105))], sh, gc_h sh I J A)
  refine gv_run 1 true hD (pc' := 34) (lv' := [(0, .inr (.inr (some 100))), (1, .inl a1), (2, .inr (.inr (some a2)))]) (st' := [.inr (.inr (some 100)), .inr (.inr (some 105))]) (h' := gc_h sh I J A) (C := (True ∧ True)) rfl ⟨trivial, trivial⟩ ?_
  have f2 := (show 0 ≤ I 100 9 ∧ I 100 9 ≤ 100 from gc_in hI R_100 rfl rfl)
  refine gv_get hD rfl rfl S_100 ⟨by decide, B_100⟩ (gc_hI S_100 rfl) ?_
  show gv_X _ _ (37, [(0, .inr (.inr (some 100))), (1, .inl a1), (2, .inr (.inr (some a2)))], [.inl (I 100 9), .inr (.inr (some 105))], sh, gc_h sh I J A)
  refine gv_run 1 true hD (pc' := 38) (lv' := [(0, .inr (.inr (some 100))), (1, .inl a1), (2, .inr (.inr (some a2)))]) (st' := [.inl a1, .inl (I 100 9), .inr (.inr (some 105))]) (h' := gc_h sh I J A) (C := (True ∧ True)) rfl ⟨trivial, trivial⟩ ?_
  refine gv_iast hD rfl S_105 ⟨by decide, B_105⟩ ⟨by omega, by omega⟩ ?_
  refine gc_st hI S_105 rfl R_105 (lo := 0) (hi := 7) rfl rfl (by omega) (by omega) (fun I3 hI3 q4 p4 => ?_)
  have FI3 := gc_frs (W := fun q j => q = 105 ∨ (q = 100 ∧ j = 9)) FI (Or.inl rfl) p4
  have t5 := p4 100 9 (fun h => absurd h.1 (by decide))
  show gv_X _ _ (39, [(0, .inr (.inr (some 100))), (1, .inl a1), (2, .inr (.inr (some a2)))], [], sh, gc_h sh I3 J A)
  refine gv_run 2 true hD (pc' := 41) (lv' := [(0, .inr (.inr (some 100))), (1, .inl a1), (2, .inr (.inr (some a2)))]) (st' := [.inr (.inr (some 100)), .inr (.inr (some 100))]) (h' := gc_h sh I3 J A) (C := ((True ∧ True) ∧ True)) rfl ⟨⟨trivial, trivial⟩, trivial⟩ ?_
  have f6 := (show 0 ≤ I3 100 9 ∧ I3 100 9 ≤ 100 from gc_in hI3 R_100 rfl rfl)
  refine gv_get hD rfl rfl S_100 ⟨by decide, B_100⟩ (gc_hI S_100 rfl) ?_
  show gv_X _ _ (44, [(0, .inr (.inr (some 100))), (1, .inl a1), (2, .inr (.inr (some a2)))], [.inl (I3 100 9), .inr (.inr (some 100))], sh, gc_h sh I3 J A)
  refine gv_run 2 true hD (pc' := 46) (lv' := [(0, .inr (.inr (some 100))), (1, .inl a1), (2, .inr (.inr (some a2)))]) (st' := [.inl ((I3 100 9) + 1), .inr (.inr (some 100))]) (h' := gc_h sh I3 J A) (C := ((True ∧ True) ∧ True)) rfl ⟨⟨trivial, trivial⟩, trivial⟩ ?_
  refine gv_put hD rfl rfl S_100 ⟨by decide, B_100⟩ rfl trivial ?_
  refine gc_st (k := 9) hI3 S_100 rfl R_100 (lo := 0) (hi := 100) rfl rfl (by omega) (by omega) (fun I7 hI7 q8 p8 => ?_)
  have FI7 := gc_frs (W := fun q j => q = 105 ∨ (q = 100 ∧ j = 9)) FI3 (Or.inr ⟨rfl, rfl⟩) p8
  have f9 := (show 0 ≤ I7 100 9 ∧ I7 100 9 ≤ 100 from gc_in hI7 R_100 rfl rfl)
  show gv_X _ _ (49, [(0, .inr (.inr (some 100))), (1, .inl a1), (2, .inr (.inr (some a2)))], [], sh, gc_h sh I7 J A)
  refine gv_run 1 true hD (pc' := 50) (lv' := [(0, .inr (.inr (some 100))), (1, .inl a1), (2, .inr (.inr (some a2)))]) (st' := [.inr (.inr (some 100))]) (h' := gc_h sh I7 J A) (C := (True ∧ True)) rfl ⟨trivial, trivial⟩ ?_
  have f10 := (show 0 ≤ I7 100 9 ∧ I7 100 9 ≤ 100 from gc_in hI7 R_100 rfl rfl)
  refine gv_get hD rfl rfl S_100 ⟨by decide, B_100⟩ (gc_hI S_100 rfl) ?_
  show gv_X _ _ (53, [(0, .inr (.inr (some 100))), (1, .inl a1), (2, .inr (.inr (some a2)))], [.inl (I7 100 9)], sh, gc_h sh I7 J A)
  exact gv_iret hD rfl ⟨I7, J, rfl, hI7, FI7, FJ, ⟨_, rfl, by omega⟩⟩
set_option maxHeartbeats 4000000 in
theorem e_X1_collect_z {ws0 : List Cond} {tb : String → gz_T} (hc : gc_Wc ws0) (hws : gc_Ws ws0) (htb : gc_tbs tb) (sh : gz_Sh) (ro : Nat → Nat) (I : gr_I) (J : gr_J) (A : gc_A) (hI : gc_Inv ro I) (a1 : Int) (hb : gc_Base sh ro A) (ha1 : 0 ≤ a1 ∧ a1 ≤ 7) (x0 : I 100 9 ≤ 99) (hSN : gc_SN sh ro A I) (hok : gc_OK sh I J A) (hlen : sh.length + 1 ≤ 1000000) : ∃ (z : Int) (n : Nat) (sh' : gz_Sh) (ro' : Nat → Nat) (I' : gr_I) (J' : gr_J) (A' : gc_A), gz_Ev ws0 tb 3 (yX1_collect, cX1_collect, 3, (some .int)) [.inr (.inr (some 100)), .inl a1, .inr (.inr (some 23))] sh (gc_h sh I J A) (some (.inl z)) sh' (gc_h sh' I' J' A') 1 n ∧ gh_CO sh ro I A n sh' ro' I' A' ∧ gc_OK sh' I' J' A' ∧ (0 ≤ z ∧ z ≤ 100 ∧ z = I 100 9 + 1) ∧ ∀ q j : Nat, J' q j = J q j := by
  have h144 := gc_Base_len hb
  have hD : gv_D (gc_E1 ws0 tb 2 (yX1_collect, cX1_collect, 3, (some .int)) kX1_collect) := gq_ok oX1_collect
  have S104 : sh[104]? = some (true, 6, 100) := gc_bS hb rfl
  have S24 : sh[24]? = some (true, 0, 1000) := gc_bS hb rfl
  have i9 : 0 ≤ I 100 9 ∧ I 100 9 ≤ 100 := gc_in hI (gc_bR hb (by decide) rfl) rfl rfl
  have i1 : 0 ≤ I 23 1 ∧ I 23 1 ≤ 1000 := gc_in hI (gc_bR hb (by decide) rfl) rfl rfl
  obtain ⟨n, hn⟩ : ∃ n : Nat, I 23 1 = (n : Int) := ⟨Int.toNat (I 23 1), by omega⟩
  obtain ⟨I1, EV, f1, f2, ok1⟩ := e_copyOf (tb := tb) hc (J := J) (A := A) (i := 24) (m := 1000) (n := n) hI S24 (gc_bR hb (by decide) rfl) (by decide) (by decide) (by omega) (by omega) hok
  obtain ⟨L, hL⟩ : ∃ L, sh.length = L := ⟨_, rfl⟩
  have SL : (sh ++ [(true, 0, n)])[L]? = some (true, 0, n) := gc_gl hL.symm
  have S104b : (sh ++ [(true, 0, n)])[104]? = some (true, 6, 100) := gc_gx S104
  have hI1 : gc_Inv (fun q => gc_lr sh.length q ro [1]) I1 := fun q k => by
    by_cases e : q < sh.length
    · show gc_lo (gc_lr sh.length q ro [1]) k ≤ I1 q k ∧ I1 q k ≤ gc_hi (gc_lr sh.length q ro [1]) k
      rw [gc_lr_lt e, f1 q k (by omega)]
      exact hI q k
    · show gc_lo (gc_lr sh.length q ro [1]) k ≤ I1 q k ∧ I1 q k ≤ gc_hi (gc_lr sh.length q ro [1]) k
      obtain ⟨d, rfl⟩ : ∃ d, q = sh.length + d := ⟨q - sh.length, by omega⟩
      rw [gc_lr_ge]
      match d with
      | 0 => exact f2 k
      | d + 1 =>
        rw [f1 _ k (by omega), (hok.2 (sh.length + (d + 1)) (by omega) k).1]
        exact gc_z0 k
  have RL : (fun q => gc_lr sh.length q ro [1]) L = 1 := by
    show gc_lr sh.length L ro [1] = 1
    rw [← hL]
    exact gc_lr_ge (d := 0)
  have hx1 : gc_ext sh ro A (sh ++ [(true, 0, n)]) (fun q => gc_lr sh.length q ro [1]) A := ⟨⟨_, rfl⟩, fun q hq => gc_lr_lt hq, fun q k x _ _ => rfl⟩
  have hx2 : gc_ext (sh ++ [(true, 0, n)]) (fun q => gc_lr sh.length q ro [1]) A (sh ++ [(true, 0, n)]) (fun q => gc_lr sh.length q ro [1]) (gc_u A 104 (Int.toNat (I 100 9)) (some L)) := ⟨⟨[], (List.append_nil _).symm⟩, fun _ _ => rfl, fun q k x hs h4 => by
    have e : ¬ q = 104 := fun h9 => by
      subst h9
      rw [S104b] at hs
      cases hs
      cases h4
    unfold gc_u
    rw [if_neg e]⟩
  have hx := gc_x_trans hx1 hx2
  have hb2 := gc_Base_x hx hb
  have ok2 : gc_OK (sh ++ [(true, 0, n)]) I1 J (gc_u A 104 (Int.toNat (I 100 9)) (some L)) := gc_OKu ok1 S104b rfl (gc_x_lt SL)
  have e9 : I1 100 9 = I 100 9 := f1 100 9 (by omega)
  suffices hY : gv_Y (gc_E1 ws0 tb 2 (yX1_collect, cX1_collect, 3, (some .int)) kX1_collect) (fun v a s => ∃ (z : Int) (I' : gr_I) (J' : gr_J), gz_fin cX1_collect (some .int) v (some (.inl z)) ∧ v.2.2.2.1 = sh ++ [(true, 0, n)] ∧ v.2.2.2.2 = gc_h (sh ++ [(true, 0, n)]) I' J' (gc_u A 104 (Int.toNat (I 100 9)) (some L)) ∧ (a = 1 ∧ s = n) ∧ gc_Inv (fun q => gc_lr sh.length q ro [1]) I' ∧ (∀ q j : Nat, (q = 105 ∨ (q = 100 ∧ j = 9)) ∨ I' q j = I1 q j) ∧ (∀ q j : Nat, False ∨ J' q j = J q j) ∧ (0 ≤ z ∧ z ≤ 100 ∧ z = I 100 9 + 1) ∧ I' 100 9 = I1 100 9 + 1) (0, [(0, .inr (.inr (some 100))), (1, .inl a1), (2, .inr (.inr (some 23)))], [], sh, gc_h sh I J A) by
    obtain ⟨k, v, a, s, h1, z, I', J', h2, h3, h4, ⟨ea, es⟩, h5, h6, h7, h8, h9⟩ := hY
    have ea := ea.symm
    have es := es.symm
    subst ea
    subst es
    refine ⟨z, n, _, _, I', J', _, Or.inr (Or.inr ⟨by decide, Nat.le_of_ble_eq_true rfl, k, v, ?_, h2, h3, h4⟩), ⟨rfl, by omega, hx, h5, fun q j hq => (h6 q j).imp id (fun h => h.trans (f1 q j hq)), by omega, fun i hi => ?_, fun q k hq => ?_⟩, gc_OK_fr ok2 (fun q j => (h6 q j).imp (fun h => ?_) id) (fun q j => (h7 q j).imp (fun h => h.elim) id), h8, fun q j => (h7 q j).resolve_left id⟩
    · show gz_to (gz_do ws0 RX1 (tb RX1) cX1_collect 3 (gz_Ev ws0 tb 2)) k _ v 1 n
      rw [gc_tb1 htb]
      exact h1
    · by_cases e : (i : Int) < I 100 9
      · obtain ⟨q, m, s1, s2, s3, s4, s5, s6⟩ := hSN i e
        refine ⟨q, m, ?_, gc_x_sh hx s2, gc_x_ro hx s2 s3, s4, s5, s6⟩
        unfold gc_u
        rw [if_pos rfl, if_neg (by omega)]
        exact s1
      · have ei : i = Int.toNat (I 100 9) := by omega
        subst ei
        exact ⟨L, n, by simp [gc_u], SL, RL, by omega, by omega, by omega⟩
    · unfold gc_u
      rw [if_neg hq]
    · rcases h with rfl | ⟨rfl, rfl⟩
      · exact ⟨by rw [List.length_append]; omega, gc_tyx (gc_bS hb2 (p := 105) rfl)⟩
      · exact ⟨by rw [List.length_append]; omega, gc_tyx (gc_bS hb2 (p := 100) rfl)⟩
  refine gv_YofX (d_X1_collect_h hws htb sh ro I J A hI a1 23 hb (gc_b23 hb) ha1 x0 (fun s1 s3 m => ?_))
  obtain ⟨m0, m1, m2, m3, m4⟩ := m
  have m5 : s3 = (n : Int) := by omega
  subst m5
  subst m3
  refine gv_Xz ?_
  refine gc_YcallS hD (ix := 161) (M := gj_Mc) (As := [.inr (.inr (some 24)), .inl (n : Int)]) (st := [.inl (I 100 9), .inr (.inr (some 104))]) rfl rfl ⟨gc_Wc_at hc 0 rfl, gc_Wc_at hc 1 rfl, gc_Wc_at hc 2 rfl, gc_Wc_at hc 3 rfl, ⟨by decide +kernel, by decide +kernel, gh_Mc2⟩, Nat.le_of_ble_eq_true rfl⟩ (Nat.le_of_ble_eq_true rfl) EV (gc_okc (Or.inl (by omega)) (gc_okc trivial (gc_okc (Or.inl (by omega)) gc_ok0))) (gc_oks trivial (gc_oks (Or.inl (by omega)) gc_ok0)) ?_
  show gv_Y _ _ (28, [(0, .inr (.inr (some 100))), (1, .inl a1), (2, .inr (.inr (some 23)))], [.inr (.inr (some sh.length)), .inl (I 100 9), .inr (.inr (some 104))], sh ++ [(true, 0, n)], gc_h (sh ++ [(true, 0, n)]) I1 J A)
  rw [hL]
  refine gc_Yaas6 hD rfl S104b SL ⟨by decide, by omega, by decide⟩ ⟨by omega, by omega⟩ ?_
  refine gv_YofX (gv_Xm (fun v h => ?_) (d_X1_collect_t_z hws htb (sh ++ [(true, 0, n)]) (fun q => gc_lr sh.length q ro [1]) I1 J (gc_u A 104 (Int.toNat (I 100 9)) (some L)) hI1 a1 23 hb2 (gc_b23 hb2) ha1 (by omega)))
  obtain ⟨r, hf, hs9, I', J', e1, e2, e3, e4, z, rfl, z0, z1, p0⟩ := h
  exact gv_Yend ⟨z, I', J', hf, hs9, e1, ⟨rfl, rfl⟩, by rw [← hL]; exact e2, e3, e4, ⟨z0, z1, by omega⟩, p0.1⟩
set_option maxHeartbeats 4000000 in
set_option maxRecDepth 100000 in
theorem d_X12_add_h_z {ws0 : List Cond} {tb : String → gz_T} (hws : gc_Ws ws0) (htb : gc_tbs tb) (sh : gz_Sh) (ro : Nat → Nat) (I : gr_I) (J : gr_J) (A : gc_A) (hI : gc_Inv ro I) (t : Nat) (a1 : Int) (β : Int → Int) (η : Int) (hb : gc_Base sh ro A) (h_t : gc_isTongue sh ro A t) (G_t : 144 ≤ t) (ha1 : 0 ≤ a1 ∧ a1 ≤ 7) (x0 : 0 ≤ a1 ∧ a1 < I 8 1) (x1 : A 10 (Int.toNat a1) = some t) (x2 : I 100 9 ≤ 99) (y0 : gs_TX β η (I 24)) (y1 : η = I 23 1) {Q : gz_S → Prop} (hQ : ∀ v, gv_Q cX12_add (some .int) sh (fun r h' => (∃ (I' : gr_I) (J' : gr_J), h' = gc_h sh I' J' A ∧ gc_Inv ro I' ∧ (∀ q j : Nat, ((q = 23 ∧ j = 4) ∨ q = 25 ∨ q = 26 ∨ (q = 23 ∧ j = 1)) ∨ I' q j = I q j) ∧ (∀ q j : Nat, (False) ∨ J' q j = J q j) ∧ (∃ z : Int, r = some (.inl z) ∧ (-3) ≤ z ∧ z ≤ (-3) ∧ (I' 23 1 = 0) ∧ gs_sn β η 25 0 0 ≤ 0))) v → Q v) (L37 : ∀ (I2 : gr_I) (J3 : gr_J) , gc_Inv ro I2 → (∀ q j : Nat, ((q = 23 ∧ j = 4) ∨ q = 25 ∨ q = 26 ∨ (q = 23 ∧ j = 1)) ∨ I2 q j = I q j) → (∀ q j : Nat, (False) ∨ J3 q j = J q j) → ((0 ≤ a1 ∧ a1 ≤ 7) ∧ (a1 = a1)) → 1 ≤ gs_sn β η 25 0 0 → gv_X (gc_E12 ws0 tb 97 (yX12_add, cX12_add, 3, (some .int)) kX12_add) Q (37, [(0, .inr (.inr (some 0))), (1, .inl a1)], [], sh, gc_h sh I2 J3 A)) : gv_X (gc_E12 ws0 tb 97 (yX12_add, cX12_add, 3, (some .int)) kX12_add) Q (0, [(0, .inr (.inr (some 0))), (1, .inl a1)], [], sh, gc_h sh I J A) := by
  have FI : ∀ q j : Nat, ((q = 23 ∧ j = 4) ∨ q = 25 ∨ q = 26 ∨ (q = 23 ∧ j = 1)) ∨ I q j = I q j := fun _ _ => Or.inr rfl
  have FJ : ∀ q j : Nat, (False) ∨ J q j = J q j := fun _ _ => Or.inr rfl
  have A_0_1 : A 0 1 = some 23 := gc_bA hb rfl
  have A_0_10 : A 0 10 = some 100 := gc_bA hb rfl
  have B_0 : 0 < 1000000 := by decide
  have B_100 : 100 < 1000000 := by decide
  have B_23 : 23 < 1000000 := by decide
  have R_23 : ro 23 = 3 := gc_bR hb (by decide) rfl
  have S_0 : sh[0]? = some (false, 12, 17) := gc_bS hb rfl
  have S_100 : sh[100]? = some (false, 1, 19) := gc_bS hb rfl
  have S_23 : sh[23]? = some (false, 9, 10) := gc_bS hb rfl
  obtain ⟨S_t, R_t, B_t, A_t_0, h_t_1, A_t_1, h_t_3, A_t_2, S_t_5, R_t_5, B_t_5, A_t_3, S_t_6, R_t_6, B_t_6, A_t_4, h_t_7, A_t_5, S_t_9, R_t_9, B_t_9, A_t_7, S_t_10, R_t_10, B_t_10, A_t_8, h_t_11, A_t_9, S_t_13, R_t_13, B_t_13, A_t_10, S_t_14, R_t_14, B_t_14, A_t_12, S_t_15, R_t_15, B_t_15, A_t_14, S_t_16, R_t_16, B_t_16, A_t_15, h_t_17⟩ := id h_t
  obtain ⟨S_t_1, R_t_1, B_t_1, A_t_1_0, S_t_1_1, R_t_1_1, B_t_1_1, Q0_t_1, Q1_t_1, Q2_t_1⟩ := id h_t_1
  obtain ⟨S_t_3, R_t_3, B_t_3, A_t_3_0, S_t_3_1, R_t_3_1, B_t_3_1, Q0_t_3, Q1_t_3, Q2_t_3⟩ := id h_t_3
  obtain ⟨S_t_7, R_t_7, B_t_7, A_t_7_0, S_t_7_1, R_t_7_1, B_t_7_1, Q0_t_7, Q1_t_7, Q2_t_7⟩ := id h_t_7
  obtain ⟨S_t_11, R_t_11, B_t_11, A_t_11_0, S_t_11_1, R_t_11_1, B_t_11_1, Q0_t_11, Q1_t_11, Q2_t_11⟩ := id h_t_11
  obtain ⟨S_t_17, R_t_17, B_t_17, A_t_17_0, S_20, R_20, B_20, A_t_17_1, S_t_17_1, R_t_17_1, B_t_17_1, A_t_17_2, S_t_17_2, R_t_17_2, B_t_17_2, A_t_17_3, S_t_17_3, R_t_17_3, B_t_17_3, A_t_17_4, S_t_17_4, R_t_17_4, B_t_17_4, A_t_17_5, S_t_17_5, R_t_17_5, B_t_17_5, S_t_17_6, R_t_17_6, B_t_17_6, S_t_17_7, R_t_17_7, B_t_17_7⟩ := id h_t_17
  have hD : gv_D (gc_E12 ws0 tb 97 (yX12_add, cX12_add, 3, (some .int)) kX12_add) := gq_ok oX12_add
  have f1 := (show 0 ≤ I 23 1 ∧ I 23 1 ≤ 1000 from gc_in hI R_23 rfl rfl)
  refine gv_run 2 true hD (pc' := 2) (lv' := [(0, .inr (.inr (some 0))), (1, .inl a1)]) (st' := [.inl a1, .inr (.inr (some 0))]) (h' := gc_h sh I J A) (C := ((True ∧ True) ∧ True)) rfl ⟨⟨trivial, trivial⟩, trivial⟩ ?_
  refine gv_callV hD rfl (As := [.inl a1]) (st := []) rfl B_0 S_0 rfl (gc_lV12 hws rfl) (Nat.le_of_ble_eq_true rfl) (gz_Ev_mono (d := 1) (by decide) (d_X12_tongueAt hws htb (J := J) hI hb (by omega) (by omega) x1)) ?_
  show gv_X _ _ (5, [(0, .inr (.inr (some 0))), (1, .inl a1)], [.inr (.inr (some t))], sh, gc_h sh I J A)
  refine gv_run 2 true hD (pc' := 7) (lv' := [(0, .inr (.inr (some 0))), (1, .inl a1)]) (st' := [.inr (.inr (some 0))]) (h' := gc_h sh I J A) (C := ((True ∧ True) ∧ True)) rfl ⟨⟨trivial, trivial⟩, trivial⟩ ?_
  refine gv_get hD rfl rfl S_0 ⟨by decide, B_0⟩ (gc_hA S_0 rfl A_0_10) ?_
  show gv_X _ _ (10, [(0, .inr (.inr (some 0))), (1, .inl a1)], [.inr (.inr (some 100))], sh, gc_h sh I J A)
  obtain ⟨r6, h6, E6, P6⟩ := d_X1_isFull_p (ws0 := ws0) (tb := tb) hws htb sh ro I J A hI   hb     
  obtain ⟨rfl, ⟨z6, rfl, q6⟩⟩ := P6
  refine gv_callV hD rfl (As := []) (st := []) rfl B_100 S_100 rfl (gc_lV12 hws rfl) (Nat.le_of_ble_eq_true rfl) (gz_Ev_mono (d := 1) (by decide) E6) ?_
  show gv_X _ _ (13, [(0, .inr (.inr (some 0))), (1, .inl a1)], [.inl z6], sh, gc_h sh I J A)
  refine gv_if_eq (t := 27) hD rfl rfl ⟨by omega, by omega⟩ (fun c7 => ?_) (fun c7 => ?_)
  · show gv_X _ _ (27, [(0, .inr (.inr (some 0))), (1, .inl a1)], [], sh, gc_h sh I J A)
    refine gv_run 1 true hD (pc' := 28) (lv' := [(0, .inr (.inr (some 0))), (1, .inl a1)]) (st' := [.inr (.inr (some 0))]) (h' := gc_h sh I J A) (C := (True ∧ True)) rfl ⟨trivial, trivial⟩ ?_
    refine gv_get hD rfl rfl S_0 ⟨by decide, B_0⟩ (gc_hA S_0 rfl A_0_1) ?_
    show gv_X _ _ (31, [(0, .inr (.inr (some 0))), (1, .inl a1)], [.inr (.inr (some 23))], sh, gc_h sh I J A)
    obtain ⟨r8, h8, E8, P8⟩ := d_X9_split_p (ws0 := ws0) (tb := tb) hws htb sh ro I J A hI 23 β η (gc_b23 hb) y0 y1
    obtain ⟨I9, J10, rfl, hI9, g8, k8, ⟨z8, rfl, q8⟩⟩ := P8
    have FI9 := gc_frc (W := fun q j => (q = 23 ∧ j = 4) ∨ q = 25 ∨ q = 26 ∨ (q = 23 ∧ j = 1)) (V := fun q j => (q = 23 ∧ j = 4) ∨ q = 25 ∨ q = 26) FI (fun q j h => (h.elim (fun h => (Or.inl h)) (fun h => (h.elim (fun h => (Or.inr (Or.inl h))) (fun h => (Or.inr (Or.inr (Or.inl h)))))))) g8
    have t11 := (g8 23 1).resolve_left (fun h => h.elim (fun h => absurd h.2 (by decide)) (fun h => h.elim (fun h => absurd h (by decide)) (fun h => absurd h (by decide))))
    obtain rfl : J = J10 := funext fun q => funext fun j => ((k8 q j).resolve_left id).symm
    refine gv_callV hD rfl (As := []) (st := []) rfl B_23 S_23 rfl (gc_lV12 hws rfl) (Nat.le_of_ble_eq_true rfl) (gz_Ev_mono (d := 2) (by decide) E8) ?_
    show gv_X _ _ (34, [(0, .inr (.inr (some 0))), (1, .inl a1)], [.inl z8], sh, gc_h sh I9 J A)
    refine gv_if_eq (t := 52) hD rfl rfl ⟨by omega, by omega⟩ (fun c12 => ?_) (fun c12 => ?_)
    · show gv_X _ _ (52, [(0, .inr (.inr (some 0))), (1, .inl a1)], [], sh, gc_h sh I9 J A)
      refine gv_run 3 true hD (pc' := 56) (lv' := [(2, .inl (-3)), (0, .inr (.inr (some 0))), (1, .inl a1)]) (st' := [.inr (.inr (some 0))]) (h' := gc_h sh I9 J A) (C := (((True ∧ True) ∧ True) ∧ True)) rfl ⟨⟨⟨trivial, trivial⟩, trivial⟩, trivial⟩ ?_
      refine gv_get hD rfl rfl S_0 ⟨by decide, B_0⟩ (gc_hA S_0 rfl A_0_1) ?_
      show gv_X _ _ (59, [(2, .inl (-3)), (0, .inr (.inr (some 0))), (1, .inl a1)], [.inr (.inr (some 23))], sh, gc_h sh I9 J A)
      refine gv_run 1 true hD (pc' := 60) (lv' := [(2, .inl (-3)), (0, .inr (.inr (some 0))), (1, .inl a1)]) (st' := [.inl 0, .inr (.inr (some 23))]) (h' := gc_h sh I9 J A) (C := (True ∧ True)) rfl ⟨trivial, trivial⟩ ?_
      refine gv_put hD rfl rfl S_23 ⟨by decide, B_23⟩ rfl trivial ?_
      refine gc_st (k := 1) hI9 S_23 rfl R_23 (lo := 0) (hi := 1000) rfl rfl (by omega) (by omega) (fun I13 hI13 q14 p14 => ?_)
      have FI13 := gc_frs (W := fun q j => (q = 23 ∧ j = 4) ∨ q = 25 ∨ q = 26 ∨ (q = 23 ∧ j = 1)) FI9 (Or.inr (Or.inr (Or.inr ⟨rfl, rfl⟩))) p14
      have f15 := (show 0 ≤ I13 23 1 ∧ I13 23 1 ≤ 1000 from gc_in hI13 R_23 rfl rfl)
      show gv_X _ _ (63, [(2, .inl (-3)), (0, .inr (.inr (some 0))), (1, .inl a1)], [], sh, gc_h sh I13 J A)
      refine gv_run 1 true hD (pc' := 64) (lv' := [(2, .inl (-3)), (0, .inr (.inr (some 0))), (1, .inl a1)]) (st' := [.inl (-3)]) (h' := gc_h sh I13 J A) (C := (True ∧ True)) rfl ⟨trivial, trivial⟩ ?_
      exact gv_Xm hQ (gv_iret hD rfl ⟨I13, J, rfl, hI13, FI13, FJ, ⟨_, rfl, by omega, by omega, by omega, gs_SZ_n q8.2.2.2.2.2 c12⟩⟩)
    · show gv_X _ _ (37, [(0, .inr (.inr (some 0))), (1, .inl a1)], [], sh, gc_h sh I9 J A)
      exact L37 I9 J hI9 FI9 FJ (by omega) (gs_SZ_y q8.2.2.2.2.2 c12)
  · show gv_X _ _ (16, [(0, .inr (.inr (some 0))), (1, .inl a1)], [], sh, gc_h sh I J A)
    exfalso; omega
set_option maxHeartbeats 4000000 in
set_option maxRecDepth 100000 in
theorem d_X12_add_t_z {ws0 : List Cond} {tb : String → gz_T} (hws : gc_Ws ws0) (htb : gc_tbs tb) (sh : gz_Sh) (ro : Nat → Nat) (I : gr_I) (J : gr_J) (A : gc_A) (hI : gc_Inv ro I) (a1 : Int) (a2 : Int) (hb : gc_Base sh ro A) (ha1 : 0 ≤ a1 ∧ a1 ≤ 7) (ha2 : 0 ≤ a2 ∧ a2 ≤ 100)   : gv_X (gc_E12 ws0 tb 97 (yX12_add, cX12_add, 3, (some .int)) kX12_add) (gv_Q cX12_add (some .int) sh (fun r h' => (∃ (I' : gr_I) (J' : gr_J), h' = gc_h sh I' J' A ∧ gc_Inv ro I' ∧ (∀ q j : Nat, ((q = 23 ∧ j = 1)) ∨ I' q j = I q j) ∧ (∀ q j : Nat, (False) ∨ J' q j = J q j) ∧ (∃ z : Int, r = some (.inl z) ∧ 0 ≤ z ∧ z ≤ 100 ∧ (I' 23 1 = 0 ∧ z = a2))))) (55, [(0, .inr (.inr (some 0))), (1, .inl a1), (2, .inl a2)], [], sh, gc_h sh I J A) := by
  have FI : ∀ q j : Nat, ((q = 23 ∧ j = 1)) ∨ I q j = I q j := fun _ _ => Or.inr rfl
  have FJ : ∀ q j : Nat, (False) ∨ J q j = J q j := fun _ _ => Or.inr rfl
  have A_0_1 : A 0 1 = some 23 := gc_bA hb rfl
  have B_0 : 0 < 1000000 := by decide
  have B_23 : 23 < 1000000 := by decide
  have R_23 : ro 23 = 3 := gc_bR hb (by decide) rfl
  have S_0 : sh[0]? = some (false, 12, 17) := gc_bS hb rfl
  have S_23 : sh[23]? = some (false, 9, 10) := gc_bS hb rfl
  have hD : gv_D (gc_E12 ws0 tb 97 (yX12_add, cX12_add, 3, (some .int)) kX12_add) := gq_ok oX12_add
  have f1 := (show 0 ≤ I 23 1 ∧ I 23 1 ≤ 1000 from gc_in hI R_23 rfl rfl)
  refine gv_run 1 true hD (pc' := 56) (lv' := [(0, .inr (.inr (some 0))), (1, .inl a1), (2, .inl a2)]) (st' := [.inr (.inr (some 0))]) (h' := gc_h sh I J A) (C := (True ∧ True)) rfl ⟨trivial, trivial⟩ ?_
  refine gv_get hD rfl rfl S_0 ⟨by decide, B_0⟩ (gc_hA S_0 rfl A_0_1) ?_
  show gv_X _ _ (59, [(0, .inr (.inr (some 0))), (1, .inl a1), (2, .inl a2)], [.inr (.inr (some 23))], sh, gc_h sh I J A)
  refine gv_run 1 true hD (pc' := 60) (lv' := [(0, .inr (.inr (some 0))), (1, .inl a1), (2, .inl a2)]) (st' := [.inl 0, .inr (.inr (some 23))]) (h' := gc_h sh I J A) (C := (True ∧ True)) rfl ⟨trivial, trivial⟩ ?_
  refine gv_put hD rfl rfl S_23 ⟨by decide, B_23⟩ rfl trivial ?_
  refine gc_st (k := 1) hI S_23 rfl R_23 (lo := 0) (hi := 1000) rfl rfl (by omega) (by omega) (fun I2 hI2 q3 p3 => ?_)
  have FI2 := gc_frs (W := fun q j => (q = 23 ∧ j = 1)) FI ⟨rfl, rfl⟩ p3
  have f4 := (show 0 ≤ I2 23 1 ∧ I2 23 1 ≤ 1000 from gc_in hI2 R_23 rfl rfl)
  show gv_X _ _ (63, [(0, .inr (.inr (some 0))), (1, .inl a1), (2, .inl a2)], [], sh, gc_h sh I2 J A)
  refine gv_run 1 true hD (pc' := 64) (lv' := [(0, .inr (.inr (some 0))), (1, .inl a1), (2, .inl a2)]) (st' := [.inl a2]) (h' := gc_h sh I2 J A) (C := (True ∧ True)) rfl ⟨trivial, trivial⟩ ?_
  exact gv_iret hD rfl ⟨I2, J, rfl, hI2, FI2, FJ, ⟨_, rfl, by omega⟩⟩
set_option maxHeartbeats 4000000 in
theorem hh_add_z {ws0 : List Cond} {tb : String → gz_T} (hw : gc_Wc ws0) (hws : gc_Ws ws0) (htb : gc_tbs tb) {sh : gz_Sh} {ro : Nat → Nat} {I : gr_I} {J : gr_J} {A : gc_A} (hs : gh_HS sh ro I J A) (hc : gh_HC sh ro A I) (a1 : Int) (β : Int → Int) (η : Int) (y0 : gs_TX β η (I 24)) (y1 : η = I 23 1) (h1 : 0 ≤ a1 ∧ a1 < I 8 1) (h9 : I 100 9 ≤ 99) (hlen : sh.length + 1 ≤ 1000000) : ∃ (z : Int) (a s : Nat) (sh' : gz_Sh) (ro' : Nat → Nat) (I' : gr_I) (J' : gr_J) (A' : gc_A), gz_Ev ws0 tb 98 (yX12_add, cX12_add, 3, (some .int)) [.inr (.inr (some 0)), .inl a1] sh (gc_h sh I J A) (some (.inl z)) sh' (gc_h sh' I' J' A') a s ∧ gh_AD sh ro I A a s sh' ro' I' J' A' ∧ (∀ q j : Nat, J' q j = J q j) ∧ ((1 ≤ gs_sn β η 25 0 0 ∧ z = I 100 9 + 1 ∧ I' 100 9 = I 100 9 + 1) ∨ (gs_sn β η 25 0 0 ≤ 0 ∧ z = -3 ∧ I' 100 9 = I 100 9)) := by
  have hb := hs.1
  have hI := hs.2.1
  have hok := hs.2.2.1
  have hT := hs.2.2.2.1
  have i8 : 0 ≤ I 8 1 ∧ I 8 1 ≤ 8 := gc_in hI (gc_bR hb (by decide) rfl) rfl rfl
  have h144 := gc_Base_len hb
  obtain ⟨t, ht, _⟩ := hs.2.2.2.2.1 (Int.toNat a1) (by omega)
  have Tt := hT.1 (Int.toNat a1) t (by omega) ht
  have hD : gv_D (gc_E12 ws0 tb 97 (yX12_add, cX12_add, 3, (some .int)) kX12_add) := gq_ok oX12_add
  suffices hY : gv_Y (gc_E12 ws0 tb 97 (yX12_add, cX12_add, 3, (some .int)) kX12_add) (fun v a s => ∃ (z : Int) (sh' : gz_Sh) (ro' : Nat → Nat) (I' : gr_I) (J' : gr_J) (A' : gc_A), gz_fin cX12_add (some .int) v (some (.inl z)) ∧ v.2.2.2.1 = sh' ∧ v.2.2.2.2 = gc_h sh' I' J' A' ∧ gh_AD sh ro I A a s sh' ro' I' J' A' ∧ (∀ q j : Nat, J' q j = J q j) ∧ ((1 ≤ gs_sn β η 25 0 0 ∧ z = I 100 9 + 1 ∧ I' 100 9 = I 100 9 + 1) ∨ (gs_sn β η 25 0 0 ≤ 0 ∧ z = -3 ∧ I' 100 9 = I 100 9))) (0, [(0, .inr (.inr (some 0))), (1, .inl a1)], [], sh, gc_h sh I J A) by
    obtain ⟨n, v, a, s, h1, z, sh', ro', I', J', A', h2, h3, h4, h5⟩ := hY
    refine ⟨z, a, s, sh', ro', I', J', A', Or.inr (Or.inr ⟨by decide, Nat.le_of_ble_eq_true rfl, n, v, ?_, h2, h3, h4⟩), h5⟩
    show gz_to (gz_do ws0 RX12 (tb RX12) cX12_add 3 (gz_Ev ws0 tb 97)) n _ v a s
    rw [gc_tb12 htb]
    exact h1
  have ok : ∀ (I1 : gr_I) (J1 : gr_J), (∀ q j : Nat, ((q = 23 ∧ j = 4) ∨ q = 25 ∨ q = 26 ∨ (q = 23 ∧ j = 1)) ∨ I1 q j = I q j) → (∀ q j : Nat, (False) ∨ J1 q j = J q j) → gc_OK sh I1 J1 A := fun I1 J1 g k => gc_OK_fr hok (fun q j => (g q j).imp (fun h => by
      rcases h with ⟨rfl, rfl⟩ | rfl | rfl | ⟨rfl, rfl⟩
      · exact ⟨by omega, gc_tyx (gc_bS hb (p := 23) rfl)⟩
      · exact ⟨by omega, gc_tyx (gc_bS hb (p := 25) rfl)⟩
      · exact ⟨by omega, gc_tyx (gc_bS hb (p := 26) rfl)⟩
      · exact ⟨by omega, gc_tyx (gc_bS hb (p := 23) rfl)⟩) id) (fun q j => (k q j).imp (fun h => h.elim) id)
  refine gv_YofX (d_X12_add_h_z hws htb sh ro I J A hI t a1 β η hb Tt.1 Tt.2.1 ⟨by omega, by omega⟩ h1 ht h9 y0 y1 (fun v h => ?_) (fun I1 J1 hI1 g1 k1 m s1 => ?_))
  · obtain ⟨r, hf, hs9, I1, J1, e1, hI1, g1, k1, z, rfl, u0, u1, p2, u2⟩ := h
    have hs1 := gh_HS_n hs hI1 (ok I1 J1 g1 k1) (fun q j => (g1 q j).imp (fun h => by omega) id) (fun q j => (k1 q j).imp (fun h => h.elim) id)
    exact gv_Yend ⟨z, sh, ro, I1, J1, A, hf, hs9, e1, ⟨hs1.1, gh_HC_x (sh' := sh) (ro' := ro) hs hc (fun q j _ => (g1 q j).imp (fun h => by omega) id) (fun _ _ _ => rfl) (gh_SN_fr hc.2.2.2.2.1 ((g1 100 9).resolve_left (by omega))), gc_x_refl, p2, ⟨by omega, by omega, by omega⟩, by have := (g1 100 9).resolve_left (by omega); omega, fun q j _ => (g1 q j).imp (fun h => by omega) id, fun _ _ _ => rfl⟩, fun q j => (k1 q j).resolve_left id, Or.inr ⟨u2, by omega, (g1 100 9).resolve_left (by omega)⟩⟩
  · refine gv_Xz ?_
    have hs1 := gh_HS_n hs hI1 (ok I1 J1 g1 k1) (fun q j => (g1 q j).imp (fun h => by omega) id) (fun q j => (k1 q j).imp (fun h => h.elim) id)
    have e9 := (g1 100 9).resolve_left (by omega)
    have S0 : sh[0]? = some (false, 12, 17) := gc_bS hb rfl
    have A0t : A 0 1 = some 23 := gc_bA hb rfl
    have A0f : A 0 10 = some 100 := gc_bA hb rfl
    obtain ⟨z, n, sh2, ro2, I2, J2, A2, EV, hco, ok2, hz, hJ2⟩ := e_X1_collect_z hw hws htb sh ro I1 J1 A hI1 a1 hb ⟨by omega, by omega⟩ (by omega) (gh_SN_fr hc.2.2.2.2.1 e9) (ok I1 J1 g1 k1) hlen
    obtain ⟨rfl, hn, hx, hI2, g2, e2, sn2, hA2⟩ := hco
    have hb2 := gc_Base_x hx hb
    refine gv_lift (fun hk => gv_run 1 true hD (pc' := 38) (lv' := [(0, .inr (.inr (some 0))), (1, .inl a1)]) (st' := [.inr (.inr (some 0))]) (h' := gc_h sh I1 J1 A) (C := (True ∧ True)) rfl ⟨trivial, trivial⟩ hk) ?_
    refine gv_lift (fun hk => gv_get hD rfl rfl S0 ⟨by decide, by decide⟩ (gc_hA S0 rfl A0f) hk) ?_
    refine gv_lift (fun hk => gv_run 2 true hD (pc' := 43) (lv' := [(0, .inr (.inr (some 0))), (1, .inl a1)]) (st' := [.inr (.inr (some 0)), .inl a1, .inr (.inr (some 100))]) (h' := gc_h sh I1 J1 A) (C := ((True ∧ True) ∧ True)) rfl ⟨⟨trivial, trivial⟩, trivial⟩ hk) ?_
    refine gv_lift (fun hk => gv_get hD rfl rfl S0 ⟨by decide, by decide⟩ (gc_hA S0 rfl A0t) hk) ?_
    refine gc_YcallV hD (ix := 303) (M := (yX1_collect, cX1_collect, 3, (some .int))) (As := [.inl a1, .inr (.inr (some 23))]) (b := 100) (st := []) rfl rfl (by decide) (gc_bS hb (p := 100) rfl) rfl (gc_lV12 hws rfl) (Nat.le_of_ble_eq_true rfl) (gz_Ev_mono (d := 3) (by decide) EV) (gc_okc (Or.inl (by omega)) (gc_okc trivial gc_ok0)) gc_ok0 ?_
    refine gv_lift (fun hk => gv_run 2 true hD (pc' := 55) (lv' := [(2, .inl z), (0, .inr (.inr (some 0))), (1, .inl a1)]) (st' := []) (h' := gc_h _ I2 J2 A2) (C := ((True ∧ True) ∧ True)) rfl ⟨⟨trivial, trivial⟩, trivial⟩ hk) ?_
    refine gv_lift (fun hk => gv_pick [1, 2, 0] rfl hk) ?_
    refine gv_YofX (gv_Xm (fun v h => ?_) (d_X12_add_t_z hws htb _ ro2 I2 J2 A2 hI2 a1 z hb2 ⟨by omega, by omega⟩ ⟨by omega, by omega⟩))
    obtain ⟨r, hf, hs9, I3, J3, e1, hI3, g3, k3, z3, rfl, u0, u1, p2, u2⟩ := h
    have l2 : (sh ++ [(true, 0, n)]).length = sh.length + 1 := by rw [List.length_append, List.length_singleton]
    have ok3 : gc_OK (sh ++ [(true, 0, n)]) I3 J3 A2 := gc_OK_fr ok2 (fun q j => (g3 q j).imp (fun h => by
        obtain ⟨rfl, rfl⟩ := h
        exact ⟨by omega, gc_tyx (gc_bS hb2 (p := 23) rfl)⟩) id) (fun q j => (k3 q j).imp (fun h => h.elim) id)
    have fr : ∀ q j : Nat, q < sh.length → (q = 23 ∨ q = 25 ∨ q = 26 ∨ q = 105 ∨ (q = 100 ∧ j = 9)) ∨ I3 q j = I q j := fun q j hq => by
      rcases g3 q j with h | h
      · exact Or.inl (by omega)
      · rcases g2 q j (by omega) with h2 | h2
        · exact Or.inl (by omega)
        · rcases g1 q j with h4 | h4
          · exact Or.inl (by omega)
          · exact Or.inr (h.trans (h2.trans h4))
    have e3 := (g3 100 9).resolve_left (by omega)
    refine gv_Yend ⟨z3, _, ro2, I3, J3, A2, hf, hs9, e1, ⟨gh_HS_x hs hx hI3 ok3 (fun q j hq => (fr q j hq).imp (fun h => by omega) id) hA2, gh_HC_x hs hc (fun q j hq => (fr q j hq).imp (fun h => by omega) id) hA2 (gh_SN_fr sn2 e3), hx, p2, ⟨by omega, by omega, by omega⟩, by omega, fr, hA2⟩, fun q j => ((k3 q j).resolve_left id).trans ((hJ2 q j).trans ((k1 q j).resolve_left id)), Or.inl ⟨s1, by omega, by omega⟩⟩
set_option maxHeartbeats 4000000 in
set_option maxRecDepth 100000 in
theorem r_sentence_z {ws0 : List Cond} {tb : String → gz_T} (hws : ∀ w ∈ gr_ws, w ∈ ws0) (htb : tb RX13 = gr_T) (ext : gz_Sh) (β : Int → Int) (N9 : Int) (I : gr_I) (J : gr_J) (hI : gr_Inv I) (y0 : gs_TX β N9 (I 56)) (y1 : N9 = I 0 68) : ∃ r h', gz_Ev ws0 tb 2 (yX13_sentence, cX13_sentence, 3, (some .boolean)) [.inr (.inr (some 0))] (gr_sh ++ ext) (gr_h I J) r (gr_sh ++ ext) h' 0 0 ∧ (∃ (I' : gr_I) (J' : gr_J), h' = gr_h I' J' ∧ gr_Inv I' ∧ gr_fr [68, 69, 143] [57, 83, 85] I I' ∧ gr_fj [68, 69, 143] [57, 83, 85] J J' ∧ (∃ z : Int, r = some (.inl z) ∧ 0 ≤ z ∧ z ≤ 1 ∧ (I' 0 68 = 0) ∧ gs_SZ β N9 z)) := by
  have FI : gr_fr [68, 69, 143] [57, 83, 85] I I := fun _ _ _ => rfl
  have FJ : gr_fj [68, 69, 143] [57, 83, 85] J J := fun _ _ _ => rfl
  have hD : gv_D (gr_E ws0 tb 1 (yX13_sentence, cX13_sentence, 3, (some .boolean)) kX13_sentence) := gq_ok oX13_sentence
  refine gr_ev (d := 1) (l := kX13_sentence) (Po := fun r h' => (∃ (I' : gr_I) (J' : gr_J), h' = gr_h I' J' ∧ gr_Inv I' ∧ gr_fr [68, 69, 143] [57, 83, 85] I I' ∧ gr_fj [68, 69, 143] [57, 83, 85] J J' ∧ (∃ z : Int, r = some (.inl z) ∧ 0 ≤ z ∧ z ≤ 1 ∧ (I' 0 68 = 0) ∧ gs_SZ β N9 z))) htb rfl (Nat.le_of_ble_eq_true rfl) ?_
  have f1 := (show 0 ≤ I 0 143 ∧ I 0 143 ≤ 24 from (hI 0 143).1)
  have f2 := (show 0 ≤ I 0 69 ∧ I 0 69 ≤ 1000 from (hI 0 69).1)
  have f3 := (show 0 ≤ I 0 68 ∧ I 0 68 ≤ 1000 from (hI 0 68).1)
  have L11 : ∀ (n : Nat) (I4 : gr_I) (J5 : gr_J) (v1_6 : Int), (1001 - v1_6).toNat < n → gr_Inv I4 → gr_fr [68, 69, 143] [57, 83, 85] I I4 → gr_fj [68, 69, 143] [57, 83, 85] J J5 → ((0 ≤ v1_6 ∧ v1_6 ≤ 1000) ∧ (I4 0 68 = 0)) → ((gs_TX β N9 (I4 57) ∧ N9 = I4 0 69 ∧ v1_6 ≤ N9) ∧ gs_sn β N9 25 0 0 = gs_sn β N9 (Int.toNat (25 - I4 0 143)) v1_6 (I4 0 143)) → gv_X (gr_E ws0 tb 1 (yX13_sentence, cX13_sentence, 3, (some .boolean)) kX13_sentence) (gv_Q cX13_sentence (some .boolean) (gr_sh ++ ext) (fun r h' => (∃ (I' : gr_I) (J' : gr_J), h' = gr_h I' J' ∧ gr_Inv I' ∧ gr_fr [68, 69, 143] [57, 83, 85] I I' ∧ gr_fj [68, 69, 143] [57, 83, 85] J J' ∧ (∃ z : Int, r = some (.inl z) ∧ 0 ≤ z ∧ z ≤ 1 ∧ (I' 0 68 = 0) ∧ gs_SZ β N9 z)))) (11, [(0, .inr (.inr (some 0))), (1, .inl v1_6)], [], gr_sh ++ ext, gr_h I4 J5) := by
    intro n
    induction n with
    | zero => intro I4 J5 v1_6 hn; omega
    | succ n ih11 =>
      intro I4 J5 v1_6 hn hI4 FI4 FJ5 m_6 w_6
      obtain ⟨hv1_6, e0_6⟩ := m_6
      have f7 := (show 0 ≤ I4 0 143 ∧ I4 0 143 ≤ 24 from (hI4 0 143).1)
      have f8 := (show 0 ≤ I4 0 69 ∧ I4 0 69 ≤ 1000 from (hI4 0 69).1)
      have f9 := (show 0 ≤ I4 0 68 ∧ I4 0 68 ≤ 1000 from (hI4 0 68).1)
      have yB : ∀ k : Int, 0 ≤ k → k < N9 → β k = I4 57 (Int.toNat k) := fun k h0 h1 => gs_TX_i w_6.1.1 h0 h1
      have w2_6 := w_6.1.2.1
      have h0_6 : 0 ≤ v1_6 := hv1_6.1
      have n0_6 : 0 ≤ I4 0 143 ∧ I4 0 143 ≤ 24 := f7
      have w3_6 := w_6.1.2.2
      have L36 : ((0 ≤ v1_6 ∧ v1_6 ≤ 1000) ∧ (v1_6 ≤ v1_6) ∧ (I4 0 68 = 0)) → gs_S β N9 v1_6 = v1_6 → gv_X (gr_E ws0 tb 1 (yX13_sentence, cX13_sentence, 3, (some .boolean)) kX13_sentence) (gv_Q cX13_sentence (some .boolean) (gr_sh ++ ext) (fun r h' => (∃ (I' : gr_I) (J' : gr_J), h' = gr_h I' J' ∧ gr_Inv I' ∧ gr_fr [68, 69, 143] [57, 83, 85] I I' ∧ gr_fj [68, 69, 143] [57, 83, 85] J J' ∧ (∃ z : Int, r = some (.inl z) ∧ 0 ≤ z ∧ z ≤ 1 ∧ (I' 0 68 = 0) ∧ gs_SZ β N9 z)))) (36, [(0, .inr (.inr (some 0))), (1, .inl v1_6)], [], gr_sh ++ ext, gr_h I4 J5) := by
        intro m_10 u_10
        obtain ⟨hv1_6_10, e0_10, e1_10⟩ := m_10
        have f11 := (show 0 ≤ I4 0 143 ∧ I4 0 143 ≤ 24 from (hI4 0 143).1)
        have f12 := (show 0 ≤ I4 0 69 ∧ I4 0 69 ≤ 1000 from (hI4 0 69).1)
        have f13 := (show 0 ≤ I4 0 68 ∧ I4 0 68 ≤ 1000 from (hI4 0 68).1)
        have L56 : ∀ (s0_14 : Int), ((0 ≤ s0_14 ∧ s0_14 ≤ 1) ∧ (I4 0 68 = 0)) → gs_SZ β N9 s0_14 → gv_X (gr_E ws0 tb 1 (yX13_sentence, cX13_sentence, 3, (some .boolean)) kX13_sentence) (gv_Q cX13_sentence (some .boolean) (gr_sh ++ ext) (fun r h' => (∃ (I' : gr_I) (J' : gr_J), h' = gr_h I' J' ∧ gr_Inv I' ∧ gr_fr [68, 69, 143] [57, 83, 85] I I' ∧ gr_fj [68, 69, 143] [57, 83, 85] J J' ∧ (∃ z : Int, r = some (.inl z) ∧ 0 ≤ z ∧ z ≤ 1 ∧ (I' 0 68 = 0) ∧ gs_SZ β N9 z)))) (56, [], [.inl s0_14], gr_sh ++ ext, gr_h I4 J5) := by
          intro s0_14 m_14 z_14
          obtain ⟨hs0_14, e0_14⟩ := m_14
          have f15 := (show 0 ≤ I4 0 143 ∧ I4 0 143 ≤ 24 from (hI4 0 143).1)
          have f16 := (show 0 ≤ I4 0 69 ∧ I4 0 69 ≤ 1000 from (hI4 0 69).1)
          have f17 := (show 0 ≤ I4 0 68 ∧ I4 0 68 ≤ 1000 from (hI4 0 68).1)
          exact gv_zret hD rfl (by omega) ⟨I4, J5, rfl, hI4, FI4, FJ5, ⟨_, rfl, by omega, by omega, by omega, z_14⟩⟩
        have L70 : ∀ (n : Nat) (I18 : gr_I) (J19 : gr_J) (v1_20 : Int) (v2_20 : Int), (1001 - v1_20).toNat < n → gr_Inv I18 → gr_fr [68, 69, 143] [57, 83, 85] I I18 → gr_fj [68, 69, 143] [57, 83, 85] J J19 → ((0 ≤ v1_20 ∧ v1_20 ≤ 1000) ∧ (0 ≤ v2_20 ∧ v2_20 ≤ 24) ∧ (I18 0 143 ≤ 23) ∧ (v1_6 + v2_20 ≤ v1_20) ∧ (I18 0 68 = 0)) → (((gs_TX β N9 (I18 57) ∧ N9 = I18 0 69) ∧ I18 0 143 = I4 0 143 ∧ v1_20 = v1_6 + v2_20 ∧ v1_20 ≤ N9 ∧ v1_6 < N9) ∧ gs_le β 1000 v1_6 = gs_le β (Int.toNat (v1_6 + (1000 : Nat) - v1_20)) v1_20) → gv_X (gr_E ws0 tb 1 (yX13_sentence, cX13_sentence, 3, (some .boolean)) kX13_sentence) (gv_Q cX13_sentence (some .boolean) (gr_sh ++ ext) (fun r h' => (∃ (I' : gr_I) (J' : gr_J), h' = gr_h I' J' ∧ gr_Inv I' ∧ gr_fr [68, 69, 143] [57, 83, 85] I I' ∧ gr_fj [68, 69, 143] [57, 83, 85] J J' ∧ (∃ z : Int, r = some (.inl z) ∧ 0 ≤ z ∧ z ≤ 1 ∧ (I' 0 68 = 0) ∧ gs_SZ β N9 z)))) (70, [(0, .inr (.inr (some 0))), (1, .inl v1_20), (2, .inl v2_20)], [], gr_sh ++ ext, gr_h I18 J19) := by
          intro n
          induction n with
          | zero => intro I18 J19 v1_20 v2_20 hn; omega
          | succ n ih70 =>
            intro I18 J19 v1_20 v2_20 hn hI18 FI18 FJ19 m_20 x_20
            clear hv1_6_10 e0_10 e1_10 f11 f12 f13 hv1_6 e0_6 f7 f8 f9
            obtain ⟨hv1_20, hv2_20, e0_20, e1_20, e2_20⟩ := m_20
            have f21 := (show 0 ≤ I18 0 143 ∧ I18 0 143 ≤ 24 from (hI18 0 143).1)
            have f22 := (show 0 ≤ I18 0 69 ∧ I18 0 69 ≤ 1000 from (hI18 0 69).1)
            have f23 := (show 0 ≤ I18 0 68 ∧ I18 0 68 ≤ 1000 from (hI18 0 68).1)
            have yC : ∀ k : Int, 0 ≤ k → k < N9 → β k = I18 57 (Int.toNat k) := fun k h0 h1 => gs_TX_i x_20.1.1.1 h0 h1
            have x1_20 := x_20.1.1.2
            have x2_20 := x_20.1.2
            have x3_20 := x_20.2
            have yO : v1_20 = N9 → β v1_20 = 0 := fun h => gs_TX_o x_20.1.1.1 (k := v1_20) (by omega)
            have v0_6 : 0 ≤ v1_6 := h0_6
            have L138 : ((I18 0 68 = 0)) → gs_sn β N9 25 0 0 ≤ 0 → gv_X (gr_E ws0 tb 1 (yX13_sentence, cX13_sentence, 3, (some .boolean)) kX13_sentence) (gv_Q cX13_sentence (some .boolean) (gr_sh ++ ext) (fun r h' => (∃ (I' : gr_I) (J' : gr_J), h' = gr_h I' J' ∧ gr_Inv I' ∧ gr_fr [68, 69, 143] [57, 83, 85] I I' ∧ gr_fj [68, 69, 143] [57, 83, 85] J J' ∧ (∃ z : Int, r = some (.inl z) ∧ 0 ≤ z ∧ z ≤ 1 ∧ (I' 0 68 = 0) ∧ gs_SZ β N9 z)))) (138, [], [], gr_sh ++ ext, gr_h I18 J19) := by
              intro m_24 n_24
              have e0_24 := m_24
              have f25 := (show 0 ≤ I18 0 143 ∧ I18 0 143 ≤ 24 from (hI18 0 143).1)
              have f26 := (show 0 ≤ I18 0 69 ∧ I18 0 69 ≤ 1000 from (hI18 0 69).1)
              have f27 := (show 0 ≤ I18 0 68 ∧ I18 0 68 ≤ 1000 from (hI18 0 68).1)
              refine gv_run 1 true hD (pc' := 139) (lv' := []) (st' := [.inl 0]) (h' := gr_h I18 J19) (C := (True ∧ True)) rfl ⟨trivial, trivial⟩ ?_
              exact gv_zret hD rfl (by omega) ⟨I18, J19, rfl, hI18, FI18, FJ19, ⟨_, rfl, by omega, by omega, by omega, gs_SZ_0 n_24⟩⟩
            have L140 : ((0 ≤ v1_20 ∧ v1_20 ≤ 1000) ∧ (1 ≤ v2_20 ∧ v2_20 ≤ 24) ∧ (I18 0 143 ≤ 23) ∧ (v1_6 + v2_20 ≤ v1_20) ∧ (I18 0 68 = 0)) → (gs_sn β N9 25 0 0 = gs_sn β N9 (Int.toNat (25 - (I18 0 143 + 1))) v1_20 (I18 0 143 + 1)) → gv_X (gr_E ws0 tb 1 (yX13_sentence, cX13_sentence, 3, (some .boolean)) kX13_sentence) (gv_Q cX13_sentence (some .boolean) (gr_sh ++ ext) (fun r h' => (∃ (I' : gr_I) (J' : gr_J), h' = gr_h I' J' ∧ gr_Inv I' ∧ gr_fr [68, 69, 143] [57, 83, 85] I I' ∧ gr_fj [68, 69, 143] [57, 83, 85] J J' ∧ (∃ z : Int, r = some (.inl z) ∧ 0 ≤ z ∧ z ≤ 1 ∧ (I' 0 68 = 0) ∧ gs_SZ β N9 z)))) (140, [(0, .inr (.inr (some 0))), (1, .inl v1_20), (2, .inl v2_20)], [], gr_sh ++ ext, gr_h I18 J19) := by
              intro m_28 y_28
              obtain ⟨hv1_20_28, hv2_20_28, e0_28, e1_28, e2_28⟩ := m_28
              have f29 := (show 0 ≤ I18 0 143 ∧ I18 0 143 ≤ 24 from (hI18 0 143).1)
              have f30 := (show 0 ≤ I18 0 69 ∧ I18 0 69 ≤ 1000 from (hI18 0 69).1)
              have f31 := (show 0 ≤ I18 0 68 ∧ I18 0 68 ≤ 1000 from (hI18 0 68).1)
              have f32 := (show 0 ≤ I18 0 143 ∧ I18 0 143 ≤ 24 from (hI18 0 143).1)
              refine gv_run 7 true hD (pc' := 151) (lv' := [(0, .inr (.inr (some 0))), (1, .inl v1_20), (2, .inl v2_20)]) (st' := [.inl 1, .inl (I18 0 143), .inr (.inr (some 0)), .inl (I18 0 143), .inr (.inr (some 85))]) (h' := gr_h I18 J19) (C := (((((((True ∧ True) ∧ True) ∧ True) ∧ True) ∧ True) ∧ True) ∧ True)) rfl ⟨⟨⟨⟨⟨⟨⟨trivial, trivial⟩, trivial⟩, trivial⟩, trivial⟩, trivial⟩, trivial⟩, trivial⟩ ?_
              refine gv_run 2 true hD (pc' := 155) (lv' := [(0, .inr (.inr (some 0))), (1, .inl v1_20), (2, .inl v2_20)]) (st' := [.inl (I18 0 143), .inr (.inr (some 85))]) (h' := gz_up (gr_h I18 J19) 0 143 (.inl (((I18 0 143) + 1)))) (C := ((True ∧ True) ∧ True)) rfl ⟨⟨trivial, trivial⟩, trivial⟩ ?_
              refine gr_st hI18 FI18 rfl rfl ⟨⟨by show 0 ≤ _; omega, by show _ ≤ 24; omega⟩, trivial⟩ (fun I33 hI33 FI33 q34 p34 => ?_)
              have t35 := p34 0 69 (by decide)
              have t36 := p34 0 68 (by decide)
              have f37 := (show 0 ≤ I33 0 143 ∧ I33 0 143 ≤ 24 from (hI33 0 143).1)
              have f38 := (show 0 ≤ I33 0 69 ∧ I33 0 69 ≤ 1000 from (hI33 0 69).1)
              have f39 := (show 0 ≤ I33 0 68 ∧ I33 0 68 ≤ 1000 from (hI33 0 68).1)
              refine gv_run 2 true hD (pc' := 157) (lv' := [(0, .inr (.inr (some 0))), (1, .inl v1_20), (2, .inl v2_20)]) (st' := []) (h' := gz_up (gr_h I33 J19) 85 (Int.toNat ((I18 0 143))) (.inl v2_20)) (C := ((True ∧ True) ∧ (0 ≤ (I18 0 143) ∧ (I18 0 143) < ((24 : Nat) : Int)))) rfl ⟨⟨trivial, trivial⟩, ⟨by omega, by omega⟩⟩ ?_
              refine gr_st hI33 FI33 rfl rfl ⟨⟨by show 0 ≤ _; omega, by show _ ≤ 24; omega⟩, trivial⟩ (fun I40 hI40 FI40 q41 p41 => ?_)
              have t42 := p41 0 143 (fun q => absurd q.1 (by decide))
              have t43 := p41 0 69 (fun q => absurd q.1 (by decide))
              have t44 := p41 0 68 (fun q => absurd q.1 (by decide))
              have f45 := (show 0 ≤ I40 0 143 ∧ I40 0 143 ≤ 24 from (hI40 0 143).1)
              have f46 := (show 0 ≤ I40 0 69 ∧ I40 0 69 ≤ 1000 from (hI40 0 69).1)
              have f47 := (show 0 ≤ I40 0 68 ∧ I40 0 68 ≤ 1000 from (hI40 0 68).1)
              refine gv_run 1 true hD (pc' := 11) (lv' := [(0, .inr (.inr (some 0))), (1, .inl v1_20), (2, .inl v2_20)]) (st' := []) (h' := gr_h I40 J19) (C := (True ∧ True)) rfl ⟨trivial, trivial⟩ ?_
              refine gv_pick [0, 1] rfl ?_
              exact ih11 I40 J19 v1_20 (by omega) hI40 FI40 FJ19 (by omega) ⟨⟨gs_TX_cp x_20.1.1.1 (fun j _ => (p41 57 j (fun q => absurd q.1 (by decide))).trans (p34 57 j (fun q => absurd q.1 (by decide)))), by omega, by omega⟩, by rw [show I40 0 143 = I18 0 143 + 1 from by omega]; exact y_28⟩
            refine gv_run 2 true hD (pc' := 72) (lv' := [(0, .inr (.inr (some 0))), (1, .inl v1_20), (2, .inl v2_20)]) (st' := [.inl v1_20, .inr (.inr (some 0))]) (h' := gr_h I18 J19) (C := ((True ∧ True) ∧ True)) rfl ⟨⟨trivial, trivial⟩, trivial⟩ ?_
            obtain ⟨r48, h48, E48, P48⟩ := r_low (ws0 := ws0) (tb := tb) hws htb ext I18 J19 hI18 v1_20 ⟨by omega, by omega⟩ 
            obtain ⟨rfl, ⟨z48, rfl, q48⟩⟩ := P48
            refine gv_callV hD rfl (As := [.inl v1_20]) (st := []) rfl (by decide) rfl rfl (gr_lV hws rfl) (Nat.le_of_ble_eq_true rfl) (gz_Ev_mono (d := 1) (by decide) E48) ?_
            show gv_X _ _ (75, [(0, .inr (.inr (some 0))), (1, .inl v1_20), (2, .inl v2_20)], [.inl z48], gr_sh ++ ext, gr_h I18 J19)
            refine gv_if_eq (t := 115) hD rfl rfl ⟨by omega, by omega⟩ (fun c49 => ?_) (fun c49 => ?_)
            · refine gv_run 1 true hD (pc' := 116) (lv' := [(0, .inr (.inr (some 0))), (1, .inl v1_20), (2, .inl v2_20)]) (st' := [.inl v2_20]) (h' := gr_h I18 J19) (C := (True ∧ True)) rfl ⟨trivial, trivial⟩ ?_
              refine gv_if_eq (t := 138) hD rfl rfl ⟨by omega, by omega⟩ (fun c50 => ?_) (fun c50 => ?_)
              · refine gv_pick [] rfl ?_
                exact L138 (by omega) (by have k9 : gs_le β 1000 v1_6 = v1_20 := (by rw [x3_20]; exact gs_le_e (Or.inr (fun h9 => by by_cases e9 : v1_20 = N9; (have := yO e9; omega); (have := yC v1_20 (by omega) (by omega); omega)))); have h9 := gs_sn_x (n := I4 0 143) u_10 x2_20.2.2.2 (by omega) k9 (by omega); have := w_6.2; omega)
              · have f51 := (show 0 ≤ I18 0 69 ∧ I18 0 69 ≤ 1000 from (hI18 0 69).1)
                refine gv_run 3 true hD (pc' := 124) (lv' := [(0, .inr (.inr (some 0))), (1, .inl v1_20), (2, .inl v2_20)]) (st' := [.inl (I18 0 69), .inl v1_20]) (h' := gr_h I18 J19) (C := (((True ∧ True) ∧ True) ∧ True)) rfl ⟨⟨⟨trivial, trivial⟩, trivial⟩, trivial⟩ ?_
                refine gv_icmp_ge (t := 140) hD rfl rfl ⟨⟨by omega, by omega⟩, ⟨by omega, by omega⟩⟩ (fun c52 => ?_) (fun c52 => ?_)
                · exact L140 (by omega) (by have k9 : gs_le β 1000 v1_6 = v1_20 := (by rw [x3_20]; exact gs_le_e (Or.inr (fun h9 => by by_cases e9 : v1_20 = N9; (have := yO e9; omega); (have := yC v1_20 (by omega) (by omega); omega)))); rw [x2_20.1, w_6.2]; exact gs_sn_w (n := I4 0 143) u_10 x2_20.2.2.2 (by omega) k9 (by omega) (by omega))
                · have f53 := (show (-128) ≤ I18 57 (Int.toNat v1_20) ∧ I18 57 (Int.toNat v1_20) ≤ 127 from (hI18 57 (Int.toNat v1_20)).1)
                  refine gv_run 4 true hD (pc' := 133) (lv' := [(0, .inr (.inr (some 0))), (1, .inl v1_20), (2, .inl v2_20)]) (st' := [.inl (I18 57 (Int.toNat v1_20))]) (h' := gr_h I18 J19) (C := ((((True ∧ True) ∧ True) ∧ True) ∧ (0 ≤ v1_20 ∧ v1_20 < ((1000 : Nat) : Int)))) rfl ⟨⟨⟨⟨trivial, trivial⟩, trivial⟩, trivial⟩, ⟨by omega, by omega⟩⟩ ?_
                  refine gv_run 1 true hD (pc' := 135) (lv' := [(0, .inr (.inr (some 0))), (1, .inl v1_20), (2, .inl v2_20)]) (st' := [.inl 32, .inl (I18 57 (Int.toNat v1_20))]) (h' := gr_h I18 J19) (C := (True ∧ True)) rfl ⟨trivial, trivial⟩ ?_
                  refine gv_icmp_eq (t := 140) hD rfl rfl ⟨⟨by omega, by omega⟩, ⟨by omega, by omega⟩⟩ (fun c54 => ?_) (fun c54 => ?_)
                  · exact L140 (by omega) (by have k9 : gs_le β 1000 v1_6 = v1_20 := (by rw [x3_20]; exact gs_le_e (Or.inr (fun h9 => by by_cases e9 : v1_20 = N9; (have := yO e9; omega); (have := yC v1_20 (by omega) (by omega); omega)))); rw [x2_20.1, w_6.2]; exact gs_sn_w (n := I4 0 143) u_10 x2_20.2.2.2 (by omega) k9 (by omega) (by omega))
                  · refine gv_pick [] rfl ?_
                    exact L138 (by omega) (by have k9 : gs_le β 1000 v1_6 = v1_20 := (by rw [x3_20]; exact gs_le_e (Or.inr (fun h9 => by by_cases e9 : v1_20 = N9; (have := yO e9; omega); (have := yC v1_20 (by omega) (by omega); omega)))); have h9 := gs_sn_w (n := I4 0 143) u_10 x2_20.2.2.2 (by omega) k9 (by omega) (by omega); have e9 := yC v1_20 (by omega) (by omega); have h8 := gs_sn_x (β := β) (N := N9) (p := v1_20) (n := I4 0 143 + 1) (gs_S_e (by omega)) (by omega) (by omega) (gs_le_e (Or.inr (by omega))) (Or.inr (Or.inl rfl)); have := w_6.2; omega)
            · refine gv_run 2 true hD (pc' := 81) (lv' := [(0, .inr (.inr (some 0))), (1, .inl v1_20), (2, .inl v2_20)]) (st' := [.inl 24, .inl v2_20]) (h' := gr_h I18 J19) (C := ((True ∧ True) ∧ True)) rfl ⟨⟨trivial, trivial⟩, trivial⟩ ?_
              refine gv_icmp_ne (t := 86) hD rfl rfl ⟨⟨by omega, by omega⟩, ⟨by omega, by omega⟩⟩ (fun c55 => ?_) (fun c55 => ?_)
              · have f56 := (show 0 ≤ I18 0 143 ∧ I18 0 143 ≤ 24 from (hI18 0 143).1)
                refine gv_run 7 true hD (pc' := 98) (lv' := [(0, .inr (.inr (some 0))), (1, .inl v1_20), (2, .inl v2_20)]) (st' := [.inl v2_20, .inl (24 * (I18 0 143)), .inr (.inr (some 83))]) (h' := gr_h I18 J19) (C := (((((((True ∧ True) ∧ True) ∧ True) ∧ True) ∧ True) ∧ True) ∧ True)) rfl ⟨⟨⟨⟨⟨⟨⟨trivial, trivial⟩, trivial⟩, trivial⟩, trivial⟩, trivial⟩, trivial⟩, trivial⟩ ?_
                have f57 := (show (-128) ≤ I18 57 (Int.toNat v1_20) ∧ I18 57 (Int.toNat v1_20) ≤ 127 from (hI18 57 (Int.toNat v1_20)).1)
                refine gv_run 7 true hD (pc' := 111) (lv' := [(1, .inl (v1_20 + 1)), (2, .inl (v2_20 + 1)), (0, .inr (.inr (some 0)))]) (st' := [.inl (I18 57 (Int.toNat v1_20)), .inl ((24 * (I18 0 143)) + v2_20), .inr (.inr (some 83))]) (h' := gr_h I18 J19) (C := (((((((True ∧ True) ∧ True) ∧ True) ∧ True) ∧ True) ∧ True) ∧ (0 ≤ v1_20 ∧ v1_20 < ((1000 : Nat) : Int)))) rfl ⟨⟨⟨⟨⟨⟨⟨trivial, trivial⟩, trivial⟩, trivial⟩, trivial⟩, trivial⟩, trivial⟩, ⟨by omega, by omega⟩⟩ ?_
                have f58 := gw_nar_byte (x := ((I18 57 (Int.toNat v1_20))))
                refine gv_run 1 true hD (pc' := 112) (lv' := [(1, .inl (v1_20 + 1)), (2, .inl (v2_20 + 1)), (0, .inr (.inr (some 0)))]) (st' := []) (h' := gz_up (gr_h I18 J19) 83 (Int.toNat (((24 * (I18 0 143)) + v2_20))) (.inl (((vp_nar .byte (Int32.ofInt ((I18 57 (Int.toNat v1_20))))).toInt)))) (C := (True ∧ (0 ≤ (((24 * (I18 0 143)) + v2_20)) ∧ (((24 * (I18 0 143)) + v2_20)) < ((576 : Nat) : Int)))) rfl ⟨trivial, ⟨by omega, by omega⟩⟩ ?_
                refine gr_st hI18 FI18 rfl rfl ⟨⟨by show (-128) ≤ _; omega, by show _ ≤ 127; omega⟩, trivial⟩ (fun I59 hI59 FI59 q60 p60 => ?_)
                have t61 := p60 0 143 (fun q => absurd q.1 (by decide))
                have t62 := p60 0 69 (fun q => absurd q.1 (by decide))
                have t63 := p60 0 68 (fun q => absurd q.1 (by decide))
                have f64 := (show 0 ≤ I59 0 143 ∧ I59 0 143 ≤ 24 from (hI59 0 143).1)
                have f65 := (show 0 ≤ I59 0 69 ∧ I59 0 69 ≤ 1000 from (hI59 0 69).1)
                have f66 := (show 0 ≤ I59 0 68 ∧ I59 0 68 ≤ 1000 from (hI59 0 68).1)
                refine gv_run 1 true hD (pc' := 70) (lv' := [(1, .inl (v1_20 + 1)), (2, .inl (v2_20 + 1)), (0, .inr (.inr (some 0)))]) (st' := []) (h' := gr_h I59 J19) (C := (True ∧ True)) rfl ⟨trivial, trivial⟩ ?_
                refine gv_pick [2, 0, 1] rfl ?_
                exact ih70 I59 J19 (v1_20 + 1) (v2_20 + 1) (by omega) hI59 FI59 FJ19 (by omega) ⟨⟨⟨gs_TX_cp x_20.1.1.1 (fun j _ => p60 57 j (fun q => absurd q.1 (by decide))), by omega⟩, by omega, by omega, by omega, by omega⟩, x3_20.trans (gs_le_s (by omega) (by rw [yC v1_20 (by omega) (by omega)]; omega))⟩
              · refine gv_run 1 true hD (pc' := 85) (lv' := [(0, .inr (.inr (some 0))), (1, .inl v1_20), (2, .inl v2_20)]) (st' := [.inl 0]) (h' := gr_h I18 J19) (C := (True ∧ True)) rfl ⟨trivial, trivial⟩ ?_
                exact gv_zret hD rfl (by omega) ⟨I18, J19, rfl, hI18, FI18, FJ19, ⟨_, rfl, by omega, by omega, by omega, gs_SZ_0 (by have g9 := gs_le_s (β := β) (m := 1000) (a := v1_6) (k := v1_20) (by omega) (by rw [yC v1_20 (by omega) (by omega)]; omega); have g8 := gs_le_ge (β := β) (Int.toNat (v1_6 + (1000 : Nat) - (v1_20 + 1))) (v1_20 + 1); have h9 := gs_sn_x (n := I4 0 143) u_10 x2_20.2.2.2 (by omega) (x3_20.trans g9) (Or.inr (Or.inr (by omega))); have := w_6.2; omega)⟩⟩
        have f67 := (show 0 ≤ I4 0 69 ∧ I4 0 69 ≤ 1000 from (hI4 0 69).1)
        refine gv_run 3 true hD (pc' := 41) (lv' := [(0, .inr (.inr (some 0))), (1, .inl v1_6)]) (st' := [.inl (I4 0 69), .inl v1_6]) (h' := gr_h I4 J5) (C := (((True ∧ True) ∧ True) ∧ True)) rfl ⟨⟨⟨trivial, trivial⟩, trivial⟩, trivial⟩ ?_
        refine gv_icmp_ne (t := 57) hD rfl rfl ⟨⟨by omega, by omega⟩, ⟨by omega, by omega⟩⟩ (fun c68 => ?_) (fun c68 => ?_)
        · have f69 := (show 0 ≤ I4 0 143 ∧ I4 0 143 ≤ 24 from (hI4 0 143).1)
          refine gv_run 3 true hD (pc' := 63) (lv' := [(0, .inr (.inr (some 0))), (1, .inl v1_6)]) (st' := [.inl 24, .inl (I4 0 143)]) (h' := gr_h I4 J5) (C := (((True ∧ True) ∧ True) ∧ True)) rfl ⟨⟨⟨trivial, trivial⟩, trivial⟩, trivial⟩ ?_
          refine gv_icmp_ne (t := 68) hD rfl rfl ⟨⟨by omega, by omega⟩, ⟨by omega, by omega⟩⟩ (fun c70 => ?_) (fun c70 => ?_)
          · refine gv_run 2 true hD (pc' := 70) (lv' := [(2, .inl 0), (0, .inr (.inr (some 0))), (1, .inl v1_6)]) (st' := []) (h' := gr_h I4 J5) (C := ((True ∧ True) ∧ True)) rfl ⟨⟨trivial, trivial⟩, trivial⟩ ?_
            refine gv_pick [1, 2, 0] rfl ?_
            exact L70 _ I4 J5 v1_6 0 (Nat.lt_succ_self _) hI4 FI4 FJ5 (by omega) ⟨⟨⟨w_6.1.1, by omega⟩, rfl, by omega, by omega, by omega⟩, by rw [show Int.toNat (v1_6 + (1000 : Nat) - v1_6) = 1000 from by omega]⟩
          · refine gv_run 1 true hD (pc' := 67) (lv' := [(0, .inr (.inr (some 0))), (1, .inl v1_6)]) (st' := [.inl 0]) (h' := gr_h I4 J5) (C := (True ∧ True)) rfl ⟨trivial, trivial⟩ ?_
            exact gv_zret hD rfl (by omega) ⟨I4, J5, rfl, hI4, FI4, FJ5, ⟨_, rfl, by omega, by omega, by omega, gs_SZ_0 (by have h9 := gs_sn_x (n := I4 0 143) u_10 (by omega) (by omega) rfl (Or.inl (by omega)); have := w_6.2; omega)⟩⟩
        · have f71 := (show 0 ≤ I4 0 143 ∧ I4 0 143 ≤ 24 from (hI4 0 143).1)
          refine gv_run 2 true hD (pc' := 48) (lv' := [(0, .inr (.inr (some 0))), (1, .inl v1_6)]) (st' := [.inl (I4 0 143)]) (h' := gr_h I4 J5) (C := ((True ∧ True) ∧ True)) rfl ⟨⟨trivial, trivial⟩, trivial⟩ ?_
          refine gv_if_le (t := 55) hD rfl rfl ⟨by omega, by omega⟩ (fun c72 => ?_) (fun c72 => ?_)
          · refine gv_run 1 true hD (pc' := 56) (lv' := [(0, .inr (.inr (some 0))), (1, .inl v1_6)]) (st' := [.inl 0]) (h' := gr_h I4 J5) (C := (True ∧ True)) rfl ⟨trivial, trivial⟩ ?_
            refine gv_pick [] rfl ?_
            exact L56 0 (by omega) (gs_SZ_0 (by have h9 := gs_sn_e (β := β) (N := N9) (p := v1_6) (n := I4 0 143) (by omega) (by omega); have := w_6.2; omega))
          · refine gv_run 2 true hD (pc' := 56) (lv' := [(0, .inr (.inr (some 0))), (1, .inl v1_6)]) (st' := [.inl 1]) (h' := gr_h I4 J5) (C := ((True ∧ True) ∧ True)) rfl ⟨⟨trivial, trivial⟩, trivial⟩ ?_
            refine gv_pick [] rfl ?_
            exact L56 1 (by omega) (gs_SZ_1 (by have h9 := gs_sn_e (β := β) (N := N9) (p := v1_6) (n := I4 0 143) (by omega) (by omega); have := w_6.2; omega))
      have f73 := (show 0 ≤ I4 0 69 ∧ I4 0 69 ≤ 1000 from (hI4 0 69).1)
      refine gv_run 3 true hD (pc' := 16) (lv' := [(0, .inr (.inr (some 0))), (1, .inl v1_6)]) (st' := [.inl (I4 0 69), .inl v1_6]) (h' := gr_h I4 J5) (C := (((True ∧ True) ∧ True) ∧ True)) rfl ⟨⟨⟨trivial, trivial⟩, trivial⟩, trivial⟩ ?_
      refine gv_icmp_ge (t := 36) hD rfl rfl ⟨⟨by omega, by omega⟩, ⟨by omega, by omega⟩⟩ (fun c74 => ?_) (fun c74 => ?_)
      · exact L36 (by omega) (gs_S_e (by omega))
      · have f75 := (show (-128) ≤ I4 57 (Int.toNat v1_6) ∧ I4 57 (Int.toNat v1_6) ≤ 127 from (hI4 57 (Int.toNat v1_6)).1)
        refine gv_run 4 true hD (pc' := 25) (lv' := [(0, .inr (.inr (some 0))), (1, .inl v1_6)]) (st' := [.inl (I4 57 (Int.toNat v1_6))]) (h' := gr_h I4 J5) (C := ((((True ∧ True) ∧ True) ∧ True) ∧ (0 ≤ v1_6 ∧ v1_6 < ((1000 : Nat) : Int)))) rfl ⟨⟨⟨⟨trivial, trivial⟩, trivial⟩, trivial⟩, ⟨by omega, by omega⟩⟩ ?_
        refine gv_run 1 true hD (pc' := 27) (lv' := [(0, .inr (.inr (some 0))), (1, .inl v1_6)]) (st' := [.inl 32, .inl (I4 57 (Int.toNat v1_6))]) (h' := gr_h I4 J5) (C := (True ∧ True)) rfl ⟨trivial, trivial⟩ ?_
        refine gv_icmp_ne (t := 36) hD rfl rfl ⟨⟨by omega, by omega⟩, ⟨by omega, by omega⟩⟩ (fun c76 => ?_) (fun c76 => ?_)
        · exact L36 (by omega) (gs_S_e (by have := yB v1_6 (by omega) (by omega); omega))
        · refine gv_run 2 true hD (pc' := 11) (lv' := [(1, .inl (v1_6 + 1)), (0, .inr (.inr (some 0)))]) (st' := []) (h' := gr_h I4 J5) (C := ((True ∧ True) ∧ True)) rfl ⟨⟨trivial, trivial⟩, trivial⟩ ?_
          refine gv_pick [1, 0] rfl ?_
          exact ih11 I4 J5 (v1_6 + 1) (by omega) hI4 FI4 FJ5 (by omega) ⟨⟨w_6.1.1, w_6.1.2.1, by omega⟩, w_6.2.trans (gs_sn_b (by omega) (by omega) (by have := yB v1_6 (by omega) (by omega); omega))⟩
  refine gv_run 1 true hD (pc' := 1) (lv' := [(0, .inr (.inr (some 0)))]) (st' := [.inr (.inr (some 0))]) (h' := gr_h I J) (C := (True ∧ True)) rfl ⟨trivial, trivial⟩ ?_
  obtain ⟨r77, h77, E77, P77⟩ := r_reads_p (ws0 := ws0) (tb := tb) hws htb ext I J hI   
  obtain ⟨I78, J79, rfl, hI78, g77, k77, ⟨rfl, q77⟩⟩ := P77
  have FI78 := gr_frt FI g77 rfl rfl
  have FJ79 := gr_fjt FJ k77 rfl rfl
  have t80 := g77 0 143 rfl
  have f81 := (show 0 ≤ I78 0 143 ∧ I78 0 143 ≤ 24 from (hI78 0 143).1)
  have f82 := (show 0 ≤ I78 0 69 ∧ I78 0 69 ≤ 1000 from (hI78 0 69).1)
  have f83 := (show 0 ≤ I78 0 68 ∧ I78 0 68 ≤ 1000 from (hI78 0 68).1)
  refine gv_callV hD rfl (As := []) (st := []) rfl (by decide) rfl rfl (gr_lV hws rfl) (Nat.le_of_ble_eq_true rfl) (gz_Ev_mono (d := 1) (by decide) E77) ?_
  show gv_X _ _ (4, [(0, .inr (.inr (some 0)))], [], gr_sh ++ ext, gr_h I78 J79)
  refine gv_run 3 true hD (pc' := 9) (lv' := [(0, .inr (.inr (some 0)))]) (st' := []) (h' := gz_up (gr_h I78 J79) 0 143 (.inl 0)) (C := (((True ∧ True) ∧ True) ∧ True)) rfl ⟨⟨⟨trivial, trivial⟩, trivial⟩, trivial⟩ ?_
  refine gr_st hI78 FI78 rfl rfl ⟨⟨by show 0 ≤ _; omega, by show _ ≤ 24; omega⟩, trivial⟩ (fun I84 hI84 FI84 q85 p85 => ?_)
  have t86 := p85 0 69 (by decide)
  have t87 := p85 0 68 (by decide)
  have f88 := (show 0 ≤ I84 0 143 ∧ I84 0 143 ≤ 24 from (hI84 0 143).1)
  have f89 := (show 0 ≤ I84 0 69 ∧ I84 0 69 ≤ 1000 from (hI84 0 69).1)
  have f90 := (show 0 ≤ I84 0 68 ∧ I84 0 68 ≤ 1000 from (hI84 0 68).1)
  refine gv_run 2 true hD (pc' := 11) (lv' := [(1, .inl 0), (0, .inr (.inr (some 0)))]) (st' := []) (h' := gr_h I84 J79) (C := ((True ∧ True) ∧ True)) rfl ⟨⟨trivial, trivial⟩, trivial⟩ ?_
  refine gv_pick [1, 0] rfl ?_
  exact L11 _ I84 J79 0 (Nat.lt_succ_self _) hI84 FI84 FJ79 (by omega) ⟨⟨gs_TX_cp y0 (fun j hj => (p85 57 j (fun h => absurd h.1 (by decide))).trans (q77.1.2 j (by omega))), by omega, by omega⟩, by rw [show I84 0 143 = 0 from by omega]; rfl⟩
set_option maxHeartbeats 4000000 in
set_option maxRecDepth 100000 in
theorem r_noTongue_z {ws0 : List Cond} {tb : String → gz_T} (hws : ∀ w ∈ gr_ws, w ∈ ws0) (htb : tb RX13 = gr_T) (ext : gz_Sh) (I : gr_I) (J : gr_J) (hI : gr_Inv I) (a1 : Int) (ha1 : (-2147483648) ≤ a1 ∧ a1 ≤ 2147483647)  : ∃ r h', gz_Ev ws0 tb 1 (yX13_noTongue, cX13_noTongue, 2, (some .boolean)) [.inr (.inr (some 0)), .inl a1] (gr_sh ++ ext) (gr_h I J) r (gr_sh ++ ext) h' 0 0 ∧ (∃ (I' : gr_I) (J' : gr_J), h' = gr_h I' J' ∧ gr_Inv I' ∧ gr_fr [0] [] I I' ∧ gr_fj [0] [] J J' ∧ (∃ z : Int, r = some (.inl z) ∧ 0 ≤ z ∧ z ≤ 1 ∧ (z = 0 → 0 ≤ a1 ∧ a1 < I 0 1 ∧ a1 ≤ 7) ∧ ((z = 0 ∧ (0 ≤ a1 ∧ a1 < I 0 1)) ∨ (z = 1 ∧ ¬ (0 ≤ a1 ∧ a1 < I 0 1))) ∧ (z = I' 0 0))) := by
  have FI : gr_fr [0] [] I I := fun _ _ _ => rfl
  have FJ : gr_fj [0] [] J J := fun _ _ _ => rfl
  have hD : gv_D (gr_E ws0 tb 0 (yX13_noTongue, cX13_noTongue, 2, (some .boolean)) kX13_noTongue) := gq_ok oX13_noTongue
  refine gr_ev (d := 0) (l := kX13_noTongue) (Po := fun r h' => (∃ (I' : gr_I) (J' : gr_J), h' = gr_h I' J' ∧ gr_Inv I' ∧ gr_fr [0] [] I I' ∧ gr_fj [0] [] J J' ∧ (∃ z : Int, r = some (.inl z) ∧ 0 ≤ z ∧ z ≤ 1 ∧ (z = 0 → 0 ≤ a1 ∧ a1 < I 0 1 ∧ a1 ≤ 7) ∧ ((z = 0 ∧ (0 ≤ a1 ∧ a1 < I 0 1)) ∨ (z = 1 ∧ ¬ (0 ≤ a1 ∧ a1 < I 0 1))) ∧ (z = I' 0 0)))) htb rfl (Nat.le_of_ble_eq_true rfl) ?_
  have f1 := (show 0 ≤ I 0 1 ∧ I 0 1 ≤ 8 from (hI 0 1).1)
  have f2 := (show 0 ≤ I 0 0 ∧ I 0 0 ≤ 2 from (hI 0 0).1)
  have L18 : ∀ (s1_3 : Int), ((0 ≤ s1_3 ∧ s1_3 ≤ 1) ∧ (s1_3 = 0 → 0 ≤ a1 ∧ a1 < I 0 1 ∧ a1 ≤ 7) ∧ ((s1_3 = 0 ∧ (0 ≤ a1 ∧ a1 < I 0 1)) ∨ (s1_3 = 1 ∧ ¬ (0 ≤ a1 ∧ a1 < I 0 1)))) → gv_X (gr_E ws0 tb 0 (yX13_noTongue, cX13_noTongue, 2, (some .boolean)) kX13_noTongue) (gv_Q cX13_noTongue (some .boolean) (gr_sh ++ ext) (fun r h' => (∃ (I' : gr_I) (J' : gr_J), h' = gr_h I' J' ∧ gr_Inv I' ∧ gr_fr [0] [] I I' ∧ gr_fj [0] [] J J' ∧ (∃ z : Int, r = some (.inl z) ∧ 0 ≤ z ∧ z ≤ 1 ∧ (z = 0 → 0 ≤ a1 ∧ a1 < I 0 1 ∧ a1 ≤ 7) ∧ ((z = 0 ∧ (0 ≤ a1 ∧ a1 < I 0 1)) ∨ (z = 1 ∧ ¬ (0 ≤ a1 ∧ a1 < I 0 1))) ∧ (z = I' 0 0))))) (18, [(0, .inr (.inr (some 0)))], [.inl s1_3, .inr (.inr (some 0))], gr_sh ++ ext, gr_h I J) := by
    intro s1_3 m_3
    obtain ⟨hs1_3, e0_3, e1_3⟩ := m_3
    have f4 := (show 0 ≤ I 0 1 ∧ I 0 1 ≤ 8 from (hI 0 1).1)
    have f5 := (show 0 ≤ I 0 0 ∧ I 0 0 ≤ 2 from (hI 0 0).1)
    have L33 : ∀ (I6 : gr_I) (J7 : gr_J) (s0_8 : Int), gr_Inv I6 → gr_fr [0] [] I I6 → gr_fj [0] [] J J7 → ((0 ≤ s0_8 ∧ s0_8 ≤ 1) ∧ (s0_8 = 0 → 0 ≤ a1 ∧ a1 < I 0 1 ∧ a1 ≤ 7) ∧ ((s0_8 = 0 ∧ (0 ≤ a1 ∧ a1 < I 0 1)) ∨ (s0_8 = 1 ∧ ¬ (0 ≤ a1 ∧ a1 < I 0 1))) ∧ (s0_8 = I6 0 0)) → gv_X (gr_E ws0 tb 0 (yX13_noTongue, cX13_noTongue, 2, (some .boolean)) kX13_noTongue) (gv_Q cX13_noTongue (some .boolean) (gr_sh ++ ext) (fun r h' => (∃ (I' : gr_I) (J' : gr_J), h' = gr_h I' J' ∧ gr_Inv I' ∧ gr_fr [0] [] I I' ∧ gr_fj [0] [] J J' ∧ (∃ z : Int, r = some (.inl z) ∧ 0 ≤ z ∧ z ≤ 1 ∧ (z = 0 → 0 ≤ a1 ∧ a1 < I 0 1 ∧ a1 ≤ 7) ∧ ((z = 0 ∧ (0 ≤ a1 ∧ a1 < I 0 1)) ∨ (z = 1 ∧ ¬ (0 ≤ a1 ∧ a1 < I 0 1))) ∧ (z = I' 0 0))))) (33, [], [.inl s0_8], gr_sh ++ ext, gr_h I6 J7) := by
      intro I6 J7 s0_8 hI6 FI6 FJ7 m_8
      clear hs1_3 e0_3 e1_3 f4 f5
      obtain ⟨hs0_8, e0_8, e1_8, e2_8⟩ := m_8
      have f9 := (show 0 ≤ I6 0 1 ∧ I6 0 1 ≤ 8 from (hI6 0 1).1)
      have f10 := (show 0 ≤ I6 0 0 ∧ I6 0 0 ≤ 2 from (hI6 0 0).1)
      exact gv_zret hD rfl (by omega) ⟨I6, J7, rfl, hI6, FI6, FJ7, ⟨_, rfl, by omega⟩⟩
    refine gv_run 1 true hD (pc' := 21) (lv' := [(0, .inr (.inr (some 0)))]) (st' := []) (h' := gz_up (gr_h I J) 0 0 (.inl s1_3)) (C := (True ∧ True)) rfl ⟨trivial, trivial⟩ ?_
    refine gr_st hI FI rfl rfl ⟨⟨by show 0 ≤ _; omega, by show _ ≤ 2; omega⟩, trivial⟩ (fun I11 hI11 FI11 q12 p12 => ?_)
    have t13 := p12 0 1 (by decide)
    have f14 := (show 0 ≤ I11 0 1 ∧ I11 0 1 ≤ 8 from (hI11 0 1).1)
    have f15 := (show 0 ≤ I11 0 0 ∧ I11 0 0 ≤ 2 from (hI11 0 0).1)
    have f16 := (show 0 ≤ I11 0 0 ∧ I11 0 0 ≤ 2 from (hI11 0 0).1)
    refine gv_run 2 true hD (pc' := 25) (lv' := [(0, .inr (.inr (some 0)))]) (st' := [.inl (I11 0 0)]) (h' := gr_h I11 J) (C := ((True ∧ True) ∧ True)) rfl ⟨⟨trivial, trivial⟩, trivial⟩ ?_
    refine gv_if_eq (t := 32) hD rfl rfl ⟨by omega, by omega⟩ (fun c17 => ?_) (fun c17 => ?_)
    · refine gv_run 1 true hD (pc' := 33) (lv' := [(0, .inr (.inr (some 0)))]) (st' := [.inl 0]) (h' := gr_h I11 J) (C := (True ∧ True)) rfl ⟨trivial, trivial⟩ ?_
      refine gv_pick [] rfl ?_
      exact L33 I11 J 0 hI11 FI11 FJ (by omega)
    · refine gv_run 2 true hD (pc' := 33) (lv' := [(0, .inr (.inr (some 0)))]) (st' := [.inl 1]) (h' := gr_h I11 J) (C := ((True ∧ True) ∧ True)) rfl ⟨⟨trivial, trivial⟩, trivial⟩ ?_
      refine gv_pick [] rfl ?_
      exact L33 I11 J 1 hI11 FI11 FJ (by omega)
  have L13 : ((¬ (0 ≤ a1 ∧ a1 < I 0 1))) → gv_X (gr_E ws0 tb 0 (yX13_noTongue, cX13_noTongue, 2, (some .boolean)) kX13_noTongue) (gv_Q cX13_noTongue (some .boolean) (gr_sh ++ ext) (fun r h' => (∃ (I' : gr_I) (J' : gr_J), h' = gr_h I' J' ∧ gr_Inv I' ∧ gr_fr [0] [] I I' ∧ gr_fj [0] [] J J' ∧ (∃ z : Int, r = some (.inl z) ∧ 0 ≤ z ∧ z ≤ 1 ∧ (z = 0 → 0 ≤ a1 ∧ a1 < I 0 1 ∧ a1 ≤ 7) ∧ ((z = 0 ∧ (0 ≤ a1 ∧ a1 < I 0 1)) ∨ (z = 1 ∧ ¬ (0 ≤ a1 ∧ a1 < I 0 1))) ∧ (z = I' 0 0))))) (13, [(0, .inr (.inr (some 0)))], [.inr (.inr (some 0))], gr_sh ++ ext, gr_h I J) := by
    intro m_18
    have e0_18 := m_18
    have f19 := (show 0 ≤ I 0 1 ∧ I 0 1 ≤ 8 from (hI 0 1).1)
    have f20 := (show 0 ≤ I 0 0 ∧ I 0 0 ≤ 2 from (hI 0 0).1)
    refine gv_run 2 true hD (pc' := 18) (lv' := [(0, .inr (.inr (some 0)))]) (st' := [.inl 1, .inr (.inr (some 0))]) (h' := gr_h I J) (C := ((True ∧ True) ∧ True)) rfl ⟨⟨trivial, trivial⟩, trivial⟩ ?_
    exact L18 1 (by omega)
  refine gv_run 2 true hD (pc' := 2) (lv' := [(0, .inr (.inr (some 0))), (1, .inl a1)]) (st' := [.inl a1, .inr (.inr (some 0))]) (h' := gr_h I J) (C := ((True ∧ True) ∧ True)) rfl ⟨⟨trivial, trivial⟩, trivial⟩ ?_
  refine gv_if_lt (t := 13) hD rfl rfl ⟨by omega, by omega⟩ (fun c21 => ?_) (fun c21 => ?_)
  · refine gv_pick [0] rfl ?_
    exact L13 (by omega)
  · have f22 := (show 0 ≤ I 0 1 ∧ I 0 1 ≤ 8 from (hI 0 1).1)
    refine gv_run 3 true hD (pc' := 10) (lv' := [(0, .inr (.inr (some 0))), (1, .inl a1)]) (st' := [.inl (I 0 1), .inl a1, .inr (.inr (some 0))]) (h' := gr_h I J) (C := (((True ∧ True) ∧ True) ∧ True)) rfl ⟨⟨⟨trivial, trivial⟩, trivial⟩, trivial⟩ ?_
    refine gv_icmp_lt (t := 17) hD rfl rfl ⟨⟨by omega, by omega⟩, ⟨by omega, by omega⟩⟩ (fun c23 => ?_) (fun c23 => ?_)
    · refine gv_run 1 true hD (pc' := 18) (lv' := [(0, .inr (.inr (some 0))), (1, .inl a1)]) (st' := [.inl 0, .inr (.inr (some 0))]) (h' := gr_h I J) (C := (True ∧ True)) rfl ⟨trivial, trivial⟩ ?_
      refine gv_pick [0] rfl ?_
      exact L18 0 (by omega)
    · refine gv_pick [0] rfl ?_
      exact L13 (by omega)
set_option maxHeartbeats 4000000 in
set_option maxRecDepth 100000 in
theorem r_add_z {ws0 : List Cond} {tb : String → gz_T} (hws : ∀ w ∈ gr_ws, w ∈ ws0) (htb : tb RX13 = gr_T) (ext : gz_Sh) (β : Int → Int) (N9 : Int) (I : gr_I) (J : gr_J) (hI : gr_Inv I) (a1 : Int) (ha1 : (-2147483648) ≤ a1 ∧ a1 ≤ 2147483647) (x0 : I 0 206 ≤ 99) (y0 : gs_TX β N9 (I 56)) (y1 : N9 = I 0 68) : ∃ r h', gz_Ev ws0 tb 3 (yX13_add, cX13_add, 4, (some .int)) [.inr (.inr (some 0)), .inl a1] (gr_sh ++ ext) (gr_h I J) r (gr_sh ++ ext) h' 0 0 ∧ (∃ (I' : gr_I) (J' : gr_J), h' = gr_h I' J' ∧ gr_Inv I' ∧ gr_fr [0, 68, 69, 143, 206] [57, 83, 85, 126, 127, 128, 129] I I' ∧ gr_fj [0, 68, 69, 143, 206] [57, 83, 85, 126, 127, 128, 129] J J' ∧ (∃ z : Int, r = some (.inl z) ∧ (-3) ≤ z ∧ z ≤ 101 ∧ (I' 0 206 ≤ I 0 206 + 1) ∧ ((0 ≤ a1 ∧ a1 < I 0 1) → I' 0 68 = 0 ∧ I' 0 0 = 0 ∧ ((1 ≤ gs_sn β N9 25 0 0 ∧ z = I 0 206 + 1 ∧ I' 0 206 = I 0 206 + 1) ∨ (gs_sn β N9 25 0 0 ≤ 0 ∧ z = -3 ∧ I' 0 206 = I 0 206))) ∧ (¬ (0 ≤ a1 ∧ a1 < I 0 1) → I' 0 68 = I 0 68 ∧ I' 0 0 = 1 ∧ I' 0 206 = I 0 206))) := by
  have FI : gr_fr [0, 68, 69, 143, 206] [57, 83, 85, 126, 127, 128, 129] I I := fun _ _ _ => rfl
  have FJ : gr_fj [0, 68, 69, 143, 206] [57, 83, 85, 126, 127, 128, 129] J J := fun _ _ _ => rfl
  have hD : gv_D (gr_E ws0 tb 2 (yX13_add, cX13_add, 4, (some .int)) kX13_add) := gq_ok oX13_add
  refine gr_ev (d := 2) (l := kX13_add) (Po := fun r h' => (∃ (I' : gr_I) (J' : gr_J), h' = gr_h I' J' ∧ gr_Inv I' ∧ gr_fr [0, 68, 69, 143, 206] [57, 83, 85, 126, 127, 128, 129] I I' ∧ gr_fj [0, 68, 69, 143, 206] [57, 83, 85, 126, 127, 128, 129] J J' ∧ (∃ z : Int, r = some (.inl z) ∧ (-3) ≤ z ∧ z ≤ 101 ∧ (I' 0 206 ≤ I 0 206 + 1) ∧ ((0 ≤ a1 ∧ a1 < I 0 1) → I' 0 68 = 0 ∧ I' 0 0 = 0 ∧ ((1 ≤ gs_sn β N9 25 0 0 ∧ z = I 0 206 + 1 ∧ I' 0 206 = I 0 206 + 1) ∨ (gs_sn β N9 25 0 0 ≤ 0 ∧ z = -3 ∧ I' 0 206 = I 0 206))) ∧ (¬ (0 ≤ a1 ∧ a1 < I 0 1) → I' 0 68 = I 0 68 ∧ I' 0 0 = 1 ∧ I' 0 206 = I 0 206)))) htb rfl (Nat.le_of_ble_eq_true rfl) ?_
  have f1 := (show 0 ≤ I 0 206 ∧ I 0 206 ≤ 100 from (hI 0 206).1)
  have f2 := (show 0 ≤ I 0 143 ∧ I 0 143 ≤ 24 from (hI 0 143).1)
  have f3 := (show 0 ≤ I 0 68 ∧ I 0 68 ≤ 1000 from (hI 0 68).1)
  have f4 := (show 0 ≤ I 0 1 ∧ I 0 1 ≤ 8 from (hI 0 1).1)
  have f5 := (show 0 ≤ I 0 2 ∧ I 0 2 ≤ 32 from (hI 0 2).1)
  have L61 : ∀ (n : Nat) (I6 : gr_I) (J7 : gr_J) (v2_8 : Int), (25 - v2_8).toNat < n → gr_Inv I6 → gr_fr [0, 68, 69, 143, 206] [57, 83, 85, 126, 127, 128, 129] I I6 → gr_fj [0, 68, 69, 143, 206] [57, 83, 85, 126, 127, 128, 129] J J7 → ((0 ≤ v2_8 ∧ v2_8 ≤ 24) ∧ (I6 0 206 ≤ 99) ∧ (I6 0 68 = 0) ∧ ((0 ≤ a1 ∧ a1 < I 0 1)) ∧ (I6 0 206 = I 0 206)) → (I6 0 0 = 0 ∧ 1 ≤ gs_sn β N9 25 0 0) → gv_X (gr_E ws0 tb 2 (yX13_add, cX13_add, 4, (some .int)) kX13_add) (gv_Q cX13_add (some .int) (gr_sh ++ ext) (fun r h' => (∃ (I' : gr_I) (J' : gr_J), h' = gr_h I' J' ∧ gr_Inv I' ∧ gr_fr [0, 68, 69, 143, 206] [57, 83, 85, 126, 127, 128, 129] I I' ∧ gr_fj [0, 68, 69, 143, 206] [57, 83, 85, 126, 127, 128, 129] J J' ∧ (∃ z : Int, r = some (.inl z) ∧ (-3) ≤ z ∧ z ≤ 101 ∧ (I' 0 206 ≤ I 0 206 + 1) ∧ ((0 ≤ a1 ∧ a1 < I 0 1) → I' 0 68 = 0 ∧ I' 0 0 = 0 ∧ ((1 ≤ gs_sn β N9 25 0 0 ∧ z = I 0 206 + 1 ∧ I' 0 206 = I 0 206 + 1) ∨ (gs_sn β N9 25 0 0 ≤ 0 ∧ z = -3 ∧ I' 0 206 = I 0 206))) ∧ (¬ (0 ≤ a1 ∧ a1 < I 0 1) → I' 0 68 = I 0 68 ∧ I' 0 0 = 1 ∧ I' 0 206 = I 0 206))))) (61, [(0, .inr (.inr (some 0))), (2, .inl v2_8)], [], gr_sh ++ ext, gr_h I6 J7) := by
    intro n
    induction n with
    | zero => intro I6 J7 v2_8 hn; omega
    | succ n ih61 =>
      intro I6 J7 v2_8 hn hI6 FI6 FJ7 m_8 w_8
      obtain ⟨hv2_8, e0_8, e1_8, e2_8, e3_8⟩ := m_8
      have f9 := (show 0 ≤ I6 0 206 ∧ I6 0 206 ≤ 100 from (hI6 0 206).1)
      have f10 := (show 0 ≤ I6 0 143 ∧ I6 0 143 ≤ 24 from (hI6 0 143).1)
      have f11 := (show 0 ≤ I6 0 68 ∧ I6 0 68 ≤ 1000 from (hI6 0 68).1)
      have f12 := (show 0 ≤ I6 0 1 ∧ I6 0 1 ≤ 8 from (hI6 0 1).1)
      have f13 := (show 0 ≤ I6 0 2 ∧ I6 0 2 ≤ 32 from (hI6 0 2).1)
      have L91 : ∀ (n : Nat) (I14 : gr_I) (J15 : gr_J) (v3_16 : Int), (25 - v3_16).toNat < n → gr_Inv I14 → gr_fr [0, 68, 69, 143, 206] [57, 83, 85, 126, 127, 128, 129] I I14 → gr_fj [0, 68, 69, 143, 206] [57, 83, 85, 126, 127, 128, 129] J J15 → ((0 ≤ v2_8 ∧ v2_8 ≤ 23) ∧ (0 ≤ v3_16 ∧ v3_16 ≤ 24) ∧ (I14 0 206 ≤ 99) ∧ (I14 0 68 = 0) ∧ ((0 ≤ a1 ∧ a1 < I 0 1)) ∧ (I14 0 206 = I 0 206)) → (I14 0 0 = 0 ∧ 1 ≤ gs_sn β N9 25 0 0) → gv_X (gr_E ws0 tb 2 (yX13_add, cX13_add, 4, (some .int)) kX13_add) (gv_Q cX13_add (some .int) (gr_sh ++ ext) (fun r h' => (∃ (I' : gr_I) (J' : gr_J), h' = gr_h I' J' ∧ gr_Inv I' ∧ gr_fr [0, 68, 69, 143, 206] [57, 83, 85, 126, 127, 128, 129] I I' ∧ gr_fj [0, 68, 69, 143, 206] [57, 83, 85, 126, 127, 128, 129] J J' ∧ (∃ z : Int, r = some (.inl z) ∧ (-3) ≤ z ∧ z ≤ 101 ∧ (I' 0 206 ≤ I 0 206 + 1) ∧ ((0 ≤ a1 ∧ a1 < I 0 1) → I' 0 68 = 0 ∧ I' 0 0 = 0 ∧ ((1 ≤ gs_sn β N9 25 0 0 ∧ z = I 0 206 + 1 ∧ I' 0 206 = I 0 206 + 1) ∨ (gs_sn β N9 25 0 0 ≤ 0 ∧ z = -3 ∧ I' 0 206 = I 0 206))) ∧ (¬ (0 ≤ a1 ∧ a1 < I 0 1) → I' 0 68 = I 0 68 ∧ I' 0 0 = 1 ∧ I' 0 206 = I 0 206))))) (91, [(0, .inr (.inr (some 0))), (2, .inl v2_8), (3, .inl v3_16)], [], gr_sh ++ ext, gr_h I14 J15) := by
        intro n
        induction n with
        | zero => intro I14 J15 v3_16 hn; omega
        | succ n ih91 =>
          intro I14 J15 v3_16 hn hI14 FI14 FJ15 m_16 w_16
          clear hv2_8 e0_8 e1_8 e2_8 e3_8 f9 f10 f11 f12 f13
          obtain ⟨hv2_8_16, hv3_16, e0_16, e1_16, e2_16, e3_16⟩ := m_16
          have f17 := (show 0 ≤ I14 0 206 ∧ I14 0 206 ≤ 100 from (hI14 0 206).1)
          have f18 := (show 0 ≤ I14 0 143 ∧ I14 0 143 ≤ 24 from (hI14 0 143).1)
          have f19 := (show 0 ≤ I14 0 68 ∧ I14 0 68 ≤ 1000 from (hI14 0 68).1)
          have f20 := (show 0 ≤ I14 0 1 ∧ I14 0 1 ≤ 8 from (hI14 0 1).1)
          have f21 := (show 0 ≤ I14 0 2 ∧ I14 0 2 ≤ 32 from (hI14 0 2).1)
          have f22 := (show 0 ≤ I14 85 (Int.toNat v2_8) ∧ I14 85 (Int.toNat v2_8) ≤ 24 from (hI14 85 (Int.toNat v2_8)).1)
          refine gv_run 5 true hD (pc' := 98) (lv' := [(0, .inr (.inr (some 0))), (2, .inl v2_8), (3, .inl v3_16)]) (st' := [.inl (I14 85 (Int.toNat v2_8)), .inl v3_16]) (h' := gr_h I14 J15) (C := (((((True ∧ True) ∧ True) ∧ True) ∧ True) ∧ (0 ≤ v2_8 ∧ v2_8 < ((24 : Nat) : Int)))) rfl ⟨⟨⟨⟨⟨trivial, trivial⟩, trivial⟩, trivial⟩, trivial⟩, ⟨by omega, by omega⟩⟩ ?_
          refine gv_icmp_ge (t := 137) hD rfl rfl ⟨⟨by omega, by omega⟩, ⟨by omega, by omega⟩⟩ (fun c23 => ?_) (fun c23 => ?_)
          · refine gv_run 2 true hD (pc' := 61) (lv' := [(2, .inl (v2_8 + 1)), (0, .inr (.inr (some 0))), (3, .inl v3_16)]) (st' := []) (h' := gr_h I14 J15) (C := ((True ∧ True) ∧ True)) rfl ⟨⟨trivial, trivial⟩, trivial⟩ ?_
            refine gv_pick [1, 0] rfl ?_
            exact ih61 I14 J15 (v2_8 + 1) (by omega) hI14 FI14 FJ15 (by omega) w_16
          · have f24 := (show 0 ≤ I14 0 206 ∧ I14 0 206 ≤ 100 from (hI14 0 206).1)
            refine gv_run 7 true hD (pc' := 113) (lv' := [(0, .inr (.inr (some 0))), (2, .inl v2_8), (3, .inl v3_16)]) (st' := [.inl v2_8, .inl (24 * (I14 0 206)), .inr (.inr (some 126))]) (h' := gr_h I14 J15) (C := (((((((True ∧ True) ∧ True) ∧ True) ∧ True) ∧ True) ∧ True) ∧ True)) rfl ⟨⟨⟨⟨⟨⟨⟨trivial, trivial⟩, trivial⟩, trivial⟩, trivial⟩, trivial⟩, trivial⟩, trivial⟩ ?_
            refine gv_run 7 true hD (pc' := 123) (lv' := [(0, .inr (.inr (some 0))), (2, .inl v2_8), (3, .inl v3_16)]) (st' := [.inr (.inr (some 83)), .inl ((((24 * (I14 0 206)) + v2_8) * 24) + v3_16), .inr (.inr (some 126))]) (h' := gr_h I14 J15) (C := (((((((True ∧ True) ∧ True) ∧ True) ∧ True) ∧ True) ∧ True) ∧ True)) rfl ⟨⟨⟨⟨⟨⟨⟨trivial, trivial⟩, trivial⟩, trivial⟩, trivial⟩, trivial⟩, trivial⟩, trivial⟩ ?_
            have f25 := (show (-128) ≤ I14 83 (Int.toNat (((24 * v2_8) + v3_16))) ∧ I14 83 (Int.toNat (((24 * v2_8) + v3_16))) ≤ 127 from (hI14 83 (Int.toNat (((24 * v2_8) + v3_16)))).1)
            refine gv_run 6 true hD (pc' := 130) (lv' := [(0, .inr (.inr (some 0))), (2, .inl v2_8), (3, .inl v3_16)]) (st' := [.inl (I14 83 (Int.toNat (((24 * v2_8) + v3_16)))), .inl ((((24 * (I14 0 206)) + v2_8) * 24) + v3_16), .inr (.inr (some 126))]) (h' := gr_h I14 J15) (C := ((((((True ∧ True) ∧ True) ∧ True) ∧ True) ∧ True) ∧ (0 ≤ (((24 * v2_8) + v3_16)) ∧ (((24 * v2_8) + v3_16)) < ((576 : Nat) : Int)))) rfl ⟨⟨⟨⟨⟨⟨trivial, trivial⟩, trivial⟩, trivial⟩, trivial⟩, trivial⟩, ⟨by omega, by omega⟩⟩ ?_
            have f26 := gw_nar_byte (x := ((I14 83 (Int.toNat (((24 * v2_8) + v3_16))))))
            refine gv_run 1 true hD (pc' := 131) (lv' := [(0, .inr (.inr (some 0))), (2, .inl v2_8), (3, .inl v3_16)]) (st' := []) (h' := gz_up (gr_h I14 J15) 126 (Int.toNat (((((24 * (I14 0 206)) + v2_8) * 24) + v3_16))) (.inl (((vp_nar .byte (Int32.ofInt ((I14 83 (Int.toNat (((24 * v2_8) + v3_16))))))).toInt)))) (C := (True ∧ (0 ≤ (((((24 * (I14 0 206)) + v2_8) * 24) + v3_16)) ∧ (((((24 * (I14 0 206)) + v2_8) * 24) + v3_16)) < ((57600 : Nat) : Int)))) rfl ⟨trivial, ⟨by omega, by omega⟩⟩ ?_
            refine gr_st hI14 FI14 rfl rfl ⟨⟨by show (-128) ≤ _; omega, by show _ ≤ 127; omega⟩, trivial⟩ (fun I27 hI27 FI27 q28 p28 => ?_)
            have t29 := p28 0 206 (fun q => absurd q.1 (by decide))
            have t30 := p28 0 143 (fun q => absurd q.1 (by decide))
            have t31 := p28 0 68 (fun q => absurd q.1 (by decide))
            have t32 := p28 0 1 (fun q => absurd q.1 (by decide))
            have t33 := p28 0 2 (fun q => absurd q.1 (by decide))
            have f34 := (show 0 ≤ I27 0 206 ∧ I27 0 206 ≤ 100 from (hI27 0 206).1)
            have f35 := (show 0 ≤ I27 0 143 ∧ I27 0 143 ≤ 24 from (hI27 0 143).1)
            have f36 := (show 0 ≤ I27 0 68 ∧ I27 0 68 ≤ 1000 from (hI27 0 68).1)
            have f37 := (show 0 ≤ I27 0 1 ∧ I27 0 1 ≤ 8 from (hI27 0 1).1)
            have f38 := (show 0 ≤ I27 0 2 ∧ I27 0 2 ≤ 32 from (hI27 0 2).1)
            refine gv_run 2 true hD (pc' := 91) (lv' := [(3, .inl (v3_16 + 1)), (0, .inr (.inr (some 0))), (2, .inl v2_8)]) (st' := []) (h' := gr_h I27 J15) (C := ((True ∧ True) ∧ True)) rfl ⟨⟨trivial, trivial⟩, trivial⟩ ?_
            refine gv_pick [1, 2, 0] rfl ?_
            exact ih91 I27 J15 (v3_16 + 1) (by omega) hI27 FI27 FJ15 (by omega) ⟨(p28 0 0 (fun q => absurd q.1 (by decide))).trans w_16.1, w_16.2⟩
      have f39 := (show 0 ≤ I6 0 143 ∧ I6 0 143 ≤ 24 from (hI6 0 143).1)
      refine gv_run 3 true hD (pc' := 66) (lv' := [(0, .inr (.inr (some 0))), (2, .inl v2_8)]) (st' := [.inl (I6 0 143), .inl v2_8]) (h' := gr_h I6 J7) (C := (((True ∧ True) ∧ True) ∧ True)) rfl ⟨⟨⟨trivial, trivial⟩, trivial⟩, trivial⟩ ?_
      refine gv_icmp_ge (t := 143) hD rfl rfl ⟨⟨by omega, by omega⟩, ⟨by omega, by omega⟩⟩ (fun c40 => ?_) (fun c40 => ?_)
      · have f41 := (show 0 ≤ I6 0 206 ∧ I6 0 206 ≤ 100 from (hI6 0 206).1)
        refine gv_run 6 true hD (pc' := 151) (lv' := [(0, .inr (.inr (some 0))), (2, .inl v2_8)]) (st' := [.inl ((I6 0 206) + 1), .inr (.inr (some 0)), .inl ((I6 0 206) + 1)]) (h' := gr_h I6 J7) (C := ((((((True ∧ True) ∧ True) ∧ True) ∧ True) ∧ True) ∧ True)) rfl ⟨⟨⟨⟨⟨⟨trivial, trivial⟩, trivial⟩, trivial⟩, trivial⟩, trivial⟩, trivial⟩ ?_
        refine gv_run 1 true hD (pc' := 154) (lv' := [(0, .inr (.inr (some 0))), (2, .inl v2_8)]) (st' := [.inl ((I6 0 206) + 1)]) (h' := gz_up (gr_h I6 J7) 0 206 (.inl (((I6 0 206) + 1)))) (C := (True ∧ True)) rfl ⟨trivial, trivial⟩ ?_
        refine gr_st hI6 FI6 rfl rfl ⟨⟨by show 0 ≤ _; omega, by show _ ≤ 100; omega⟩, trivial⟩ (fun I42 hI42 FI42 q43 p43 => ?_)
        have t44 := p43 0 143 (by decide)
        have t45 := p43 0 68 (by decide)
        have t46 := p43 0 1 (by decide)
        have t47 := p43 0 2 (by decide)
        have f48 := (show 0 ≤ I42 0 206 ∧ I42 0 206 ≤ 100 from (hI42 0 206).1)
        have f49 := (show 0 ≤ I42 0 143 ∧ I42 0 143 ≤ 24 from (hI42 0 143).1)
        have f50 := (show 0 ≤ I42 0 68 ∧ I42 0 68 ≤ 1000 from (hI42 0 68).1)
        have f51 := (show 0 ≤ I42 0 1 ∧ I42 0 1 ≤ 8 from (hI42 0 1).1)
        have f52 := (show 0 ≤ I42 0 2 ∧ I42 0 2 ≤ 32 from (hI42 0 2).1)
        exact gv_iret hD rfl ⟨I42, J7, rfl, hI42, FI42, FJ7, ⟨_, rfl, by omega, by omega, by omega, fun _ => ⟨by omega, (p43 0 0 (by decide)).trans w_8.1, Or.inl ⟨w_8.2, by omega, by omega⟩⟩, fun h9 => absurd e2_8 h9⟩⟩
      · have f53 := (show 0 ≤ I6 0 206 ∧ I6 0 206 ≤ 100 from (hI6 0 206).1)
        refine gv_run 7 true hD (pc' := 81) (lv' := [(0, .inr (.inr (some 0))), (2, .inl v2_8)]) (st' := [.inl v2_8, .inl (24 * (I6 0 206)), .inr (.inr (some 129))]) (h' := gr_h I6 J7) (C := (((((((True ∧ True) ∧ True) ∧ True) ∧ True) ∧ True) ∧ True) ∧ True)) rfl ⟨⟨⟨⟨⟨⟨⟨trivial, trivial⟩, trivial⟩, trivial⟩, trivial⟩, trivial⟩, trivial⟩, trivial⟩ ?_
        have f54 := (show 0 ≤ I6 85 (Int.toNat v2_8) ∧ I6 85 (Int.toNat v2_8) ≤ 24 from (hI6 85 (Int.toNat v2_8)).1)
        refine gv_run 5 true hD (pc' := 88) (lv' := [(0, .inr (.inr (some 0))), (2, .inl v2_8)]) (st' := [.inl (I6 85 (Int.toNat v2_8)), .inl ((24 * (I6 0 206)) + v2_8), .inr (.inr (some 129))]) (h' := gr_h I6 J7) (C := (((((True ∧ True) ∧ True) ∧ True) ∧ True) ∧ (0 ≤ v2_8 ∧ v2_8 < ((24 : Nat) : Int)))) rfl ⟨⟨⟨⟨⟨trivial, trivial⟩, trivial⟩, trivial⟩, trivial⟩, ⟨by omega, by omega⟩⟩ ?_
        refine gv_run 1 true hD (pc' := 89) (lv' := [(0, .inr (.inr (some 0))), (2, .inl v2_8)]) (st' := []) (h' := gz_up (gr_h I6 J7) 129 (Int.toNat (((24 * (I6 0 206)) + v2_8))) (.inl ((I6 85 (Int.toNat v2_8))))) (C := (True ∧ (0 ≤ (((24 * (I6 0 206)) + v2_8)) ∧ (((24 * (I6 0 206)) + v2_8)) < ((2400 : Nat) : Int)))) rfl ⟨trivial, ⟨by omega, by omega⟩⟩ ?_
        refine gr_st hI6 FI6 rfl rfl ⟨⟨by show 0 ≤ _; omega, by show _ ≤ 24; omega⟩, trivial⟩ (fun I55 hI55 FI55 q56 p56 => ?_)
        have t57 := p56 0 206 (fun q => absurd q.1 (by decide))
        have t58 := p56 0 143 (fun q => absurd q.1 (by decide))
        have t59 := p56 0 68 (fun q => absurd q.1 (by decide))
        have t60 := p56 0 1 (fun q => absurd q.1 (by decide))
        have t61 := p56 0 2 (fun q => absurd q.1 (by decide))
        have f62 := (show 0 ≤ I55 0 206 ∧ I55 0 206 ≤ 100 from (hI55 0 206).1)
        have f63 := (show 0 ≤ I55 0 143 ∧ I55 0 143 ≤ 24 from (hI55 0 143).1)
        have f64 := (show 0 ≤ I55 0 68 ∧ I55 0 68 ≤ 1000 from (hI55 0 68).1)
        have f65 := (show 0 ≤ I55 0 1 ∧ I55 0 1 ≤ 8 from (hI55 0 1).1)
        have f66 := (show 0 ≤ I55 0 2 ∧ I55 0 2 ≤ 32 from (hI55 0 2).1)
        refine gv_run 2 true hD (pc' := 91) (lv' := [(3, .inl 0), (0, .inr (.inr (some 0))), (2, .inl v2_8)]) (st' := []) (h' := gr_h I55 J7) (C := ((True ∧ True) ∧ True)) rfl ⟨⟨trivial, trivial⟩, trivial⟩ ?_
        refine gv_pick [1, 2, 0] rfl ?_
        exact L91 _ I55 J7 0 (Nat.lt_succ_self _) hI55 FI55 FJ7 (by omega) ⟨(p56 0 0 (fun q => absurd q.1 (by decide))).trans w_8.1, w_8.2⟩
  refine gv_run 2 true hD (pc' := 2) (lv' := [(0, .inr (.inr (some 0))), (1, .inl a1)]) (st' := [.inl a1, .inr (.inr (some 0))]) (h' := gr_h I J) (C := ((True ∧ True) ∧ True)) rfl ⟨⟨trivial, trivial⟩, trivial⟩ ?_
  obtain ⟨r67, h67, E67, P67⟩ := r_noTongue_z (ws0 := ws0) (tb := tb) hws htb ext I J hI a1 ⟨by omega, by omega⟩ 
  obtain ⟨I68, J69, rfl, hI68, g67, k67, ⟨z67, rfl, q67⟩⟩ := P67
  have FI68 := gr_frt FI g67 rfl rfl
  have FJ69 := gr_fjt FJ k67 rfl rfl
  have t70 := g67 0 206 rfl
  have t71 := g67 0 143 rfl
  have t72 := g67 0 68 rfl
  have t73 := g67 0 1 rfl
  have t74 := g67 0 2 rfl
  have f75 := (show 0 ≤ I68 0 206 ∧ I68 0 206 ≤ 100 from (hI68 0 206).1)
  have f76 := (show 0 ≤ I68 0 143 ∧ I68 0 143 ≤ 24 from (hI68 0 143).1)
  have f77 := (show 0 ≤ I68 0 68 ∧ I68 0 68 ≤ 1000 from (hI68 0 68).1)
  have f78 := (show 0 ≤ I68 0 1 ∧ I68 0 1 ≤ 8 from (hI68 0 1).1)
  have f79 := (show 0 ≤ I68 0 2 ∧ I68 0 2 ≤ 32 from (hI68 0 2).1)
  refine gv_callV hD rfl (As := [.inl a1]) (st := []) rfl (by decide) rfl rfl (gr_lV hws rfl) (Nat.le_of_ble_eq_true rfl) (gz_Ev_mono (d := 1) (by decide) E67) ?_
  show gv_X _ _ (5, [(0, .inr (.inr (some 0))), (1, .inl a1)], [.inl z67], gr_sh ++ ext, gr_h I68 J69)
  refine gv_if_eq (t := 10) hD rfl rfl ⟨by omega, by omega⟩ (fun c80 => ?_) (fun c80 => ?_)
  · have f81 := (show 0 ≤ I68 0 206 ∧ I68 0 206 ≤ 100 from (hI68 0 206).1)
    refine gv_run 3 true hD (pc' := 16) (lv' := [(0, .inr (.inr (some 0))), (1, .inl a1)]) (st' := [.inl 100, .inl (I68 0 206)]) (h' := gr_h I68 J69) (C := (((True ∧ True) ∧ True) ∧ True)) rfl ⟨⟨⟨trivial, trivial⟩, trivial⟩, trivial⟩ ?_
    refine gv_icmp_ne (t := 26) hD rfl rfl ⟨⟨by omega, by omega⟩, ⟨by omega, by omega⟩⟩ (fun c82 => ?_) (fun c82 => ?_)
    · refine gv_run 1 true hD (pc' := 27) (lv' := [(0, .inr (.inr (some 0))), (1, .inl a1)]) (st' := [.inr (.inr (some 0))]) (h' := gr_h I68 J69) (C := (True ∧ True)) rfl ⟨trivial, trivial⟩ ?_
      obtain ⟨r83, h83, E83, P83⟩ := r_sentence_z (ws0 := ws0) (tb := tb) hws htb ext β N9 I68 J69 hI68 (by rw [show I68 56 = I 56 from funext fun k => g67 56 k rfl]; exact y0) (by omega)
      obtain ⟨I84, J85, rfl, hI84, g83, k83, ⟨z83, rfl, q83⟩⟩ := P83
      have FI84 := gr_frt FI68 g83 rfl rfl
      have FJ85 := gr_fjt FJ69 k83 rfl rfl
      have t86 := g83 0 206 rfl
      have t87 := g83 0 1 rfl
      have t88 := g83 0 2 rfl
      have f89 := (show 0 ≤ I84 0 206 ∧ I84 0 206 ≤ 100 from (hI84 0 206).1)
      have f90 := (show 0 ≤ I84 0 143 ∧ I84 0 143 ≤ 24 from (hI84 0 143).1)
      have f91 := (show 0 ≤ I84 0 68 ∧ I84 0 68 ≤ 1000 from (hI84 0 68).1)
      have f92 := (show 0 ≤ I84 0 1 ∧ I84 0 1 ≤ 8 from (hI84 0 1).1)
      have f93 := (show 0 ≤ I84 0 2 ∧ I84 0 2 ≤ 32 from (hI84 0 2).1)
      refine gv_callV hD rfl (As := []) (st := []) rfl (by decide) rfl rfl (gr_lV hws rfl) (Nat.le_of_ble_eq_true rfl) (gz_Ev_mono (d := 2) (by decide) E83) ?_
      show gv_X _ _ (30, [(0, .inr (.inr (some 0))), (1, .inl a1)], [.inl z83], gr_sh ++ ext, gr_h I84 J85)
      refine gv_if_ne (t := 36) hD rfl rfl ⟨by omega, by omega⟩ (fun c94 => ?_) (fun c94 => ?_)
      · have f95 := (show 0 ≤ I84 0 206 ∧ I84 0 206 ≤ 100 from (hI84 0 206).1)
        have f96 := (show 0 ≤ I84 0 143 ∧ I84 0 143 ≤ 24 from (hI84 0 143).1)
        refine gv_run 6 true hD (pc' := 48) (lv' := [(0, .inr (.inr (some 0))), (1, .inl a1)]) (st' := [.inl (I84 0 143), .inl (I84 0 206), .inr (.inr (some 127))]) (h' := gr_h I84 J85) (C := ((((((True ∧ True) ∧ True) ∧ True) ∧ True) ∧ True) ∧ True)) rfl ⟨⟨⟨⟨⟨⟨trivial, trivial⟩, trivial⟩, trivial⟩, trivial⟩, trivial⟩, trivial⟩ ?_
        refine gv_run 1 true hD (pc' := 49) (lv' := [(0, .inr (.inr (some 0))), (1, .inl a1)]) (st' := []) (h' := gz_up (gr_h I84 J85) 127 (Int.toNat ((I84 0 206))) (.inl (I84 0 143))) (C := (True ∧ (0 ≤ (I84 0 206) ∧ (I84 0 206) < ((100 : Nat) : Int)))) rfl ⟨trivial, ⟨by omega, by omega⟩⟩ ?_
        refine gr_st hI84 FI84 rfl rfl ⟨⟨by show 0 ≤ _; omega, by show _ ≤ 24; omega⟩, trivial⟩ (fun I97 hI97 FI97 q98 p98 => ?_)
        have t99 := p98 0 206 (fun q => absurd q.1 (by decide))
        have t100 := p98 0 143 (fun q => absurd q.1 (by decide))
        have t101 := p98 0 68 (fun q => absurd q.1 (by decide))
        have t102 := p98 0 1 (fun q => absurd q.1 (by decide))
        have t103 := p98 0 2 (fun q => absurd q.1 (by decide))
        have f104 := (show 0 ≤ I97 0 206 ∧ I97 0 206 ≤ 100 from (hI97 0 206).1)
        have f105 := (show 0 ≤ I97 0 143 ∧ I97 0 143 ≤ 24 from (hI97 0 143).1)
        have f106 := (show 0 ≤ I97 0 68 ∧ I97 0 68 ≤ 1000 from (hI97 0 68).1)
        have f107 := (show 0 ≤ I97 0 1 ∧ I97 0 1 ≤ 8 from (hI97 0 1).1)
        have f108 := (show 0 ≤ I97 0 2 ∧ I97 0 2 ≤ 32 from (hI97 0 2).1)
        have f109 := (show 0 ≤ I97 0 206 ∧ I97 0 206 ≤ 100 from (hI97 0 206).1)
        refine gv_run 5 true hD (pc' := 58) (lv' := [(0, .inr (.inr (some 0))), (1, .inl a1)]) (st' := [.inl a1, .inl (I97 0 206), .inr (.inr (some 128))]) (h' := gr_h I97 J85) (C := (((((True ∧ True) ∧ True) ∧ True) ∧ True) ∧ True)) rfl ⟨⟨⟨⟨⟨trivial, trivial⟩, trivial⟩, trivial⟩, trivial⟩, trivial⟩ ?_
        refine gv_run 1 true hD (pc' := 59) (lv' := [(0, .inr (.inr (some 0))), (1, .inl a1)]) (st' := []) (h' := gz_up (gr_h I97 J85) 128 (Int.toNat ((I97 0 206))) (.inl a1)) (C := (True ∧ (0 ≤ (I97 0 206) ∧ (I97 0 206) < ((100 : Nat) : Int)))) rfl ⟨trivial, ⟨by omega, by omega⟩⟩ ?_
        refine gr_st hI97 FI97 rfl rfl ⟨⟨by show 0 ≤ _; omega, by show _ ≤ 7; omega⟩, trivial⟩ (fun I110 hI110 FI110 q111 p111 => ?_)
        have t112 := p111 0 206 (fun q => absurd q.1 (by decide))
        have t113 := p111 0 143 (fun q => absurd q.1 (by decide))
        have t114 := p111 0 68 (fun q => absurd q.1 (by decide))
        have t115 := p111 0 1 (fun q => absurd q.1 (by decide))
        have t116 := p111 0 2 (fun q => absurd q.1 (by decide))
        have f117 := (show 0 ≤ I110 0 206 ∧ I110 0 206 ≤ 100 from (hI110 0 206).1)
        have f118 := (show 0 ≤ I110 0 143 ∧ I110 0 143 ≤ 24 from (hI110 0 143).1)
        have f119 := (show 0 ≤ I110 0 68 ∧ I110 0 68 ≤ 1000 from (hI110 0 68).1)
        have f120 := (show 0 ≤ I110 0 1 ∧ I110 0 1 ≤ 8 from (hI110 0 1).1)
        have f121 := (show 0 ≤ I110 0 2 ∧ I110 0 2 ≤ 32 from (hI110 0 2).1)
        refine gv_run 2 true hD (pc' := 61) (lv' := [(2, .inl 0), (0, .inr (.inr (some 0))), (1, .inl a1)]) (st' := []) (h' := gr_h I110 J85) (C := ((True ∧ True) ∧ True)) rfl ⟨⟨trivial, trivial⟩, trivial⟩ ?_
        refine gv_pick [1, 0] rfl ?_
        exact L61 _ I110 J85 0 (Nat.lt_succ_self _) hI110 FI110 FJ85 (by omega) ⟨(p111 0 0 (fun q => absurd q.1 (by decide))).trans ((p98 0 0 (fun q => absurd q.1 (by decide))).trans ((g83 0 0 rfl).trans (show I68 0 0 = 0 by omega))), gs_SZ_y q83.2.2.2 c94⟩
      · refine gv_run 1 true hD (pc' := 35) (lv' := [(0, .inr (.inr (some 0))), (1, .inl a1)]) (st' := [.inl (-3)]) (h' := gr_h I84 J85) (C := (True ∧ True)) rfl ⟨trivial, trivial⟩ ?_
        exact gv_iret hD rfl ⟨I84, J85, rfl, hI84, FI84, FJ85, ⟨_, rfl, by omega, by omega, by omega, fun _ => ⟨by omega, ((g83 0 0 rfl).trans (show I68 0 0 = 0 by omega)), Or.inr ⟨gs_SZ_n q83.2.2.2 c94, by omega, by omega⟩⟩, fun h9 => absurd (show 0 ≤ a1 ∧ a1 < I 0 1 by omega) h9⟩⟩
    · refine gv_run 3 true hD (pc' := 24) (lv' := [(0, .inr (.inr (some 0))), (1, .inl a1)]) (st' := []) (h' := gz_up (gr_h I68 J69) 0 0 (.inl 2)) (C := (((True ∧ True) ∧ True) ∧ True)) rfl ⟨⟨⟨trivial, trivial⟩, trivial⟩, trivial⟩ ?_
      refine gr_st hI68 FI68 rfl rfl ⟨⟨by show 0 ≤ _; omega, by show _ ≤ 2; omega⟩, trivial⟩ (fun I122 hI122 FI122 q123 p123 => ?_)
      have t124 := p123 0 206 (by decide)
      have t125 := p123 0 143 (by decide)
      have t126 := p123 0 68 (by decide)
      have t127 := p123 0 1 (by decide)
      have t128 := p123 0 2 (by decide)
      have f129 := (show 0 ≤ I122 0 206 ∧ I122 0 206 ≤ 100 from (hI122 0 206).1)
      have f130 := (show 0 ≤ I122 0 143 ∧ I122 0 143 ≤ 24 from (hI122 0 143).1)
      have f131 := (show 0 ≤ I122 0 68 ∧ I122 0 68 ≤ 1000 from (hI122 0 68).1)
      have f132 := (show 0 ≤ I122 0 1 ∧ I122 0 1 ≤ 8 from (hI122 0 1).1)
      have f133 := (show 0 ≤ I122 0 2 ∧ I122 0 2 ≤ 32 from (hI122 0 2).1)
      refine gv_run 1 true hD (pc' := 25) (lv' := [(0, .inr (.inr (some 0))), (1, .inl a1)]) (st' := [.inl 0]) (h' := gr_h I122 J69) (C := (True ∧ True)) rfl ⟨trivial, trivial⟩ ?_
      exact gv_iret hD rfl ⟨I122, J69, rfl, hI122, FI122, FJ69, absurd x0 (by omega)⟩
  · refine gv_run 1 true hD (pc' := 9) (lv' := [(0, .inr (.inr (some 0))), (1, .inl a1)]) (st' := [.inl 0]) (h' := gr_h I68 J69) (C := (True ∧ True)) rfl ⟨trivial, trivial⟩ ?_
    exact gv_iret hD rfl ⟨I68, J69, rfl, hI68, FI68, FJ69, ⟨_, rfl, by omega, by omega, by omega, fun h9 => absurd h9 (by omega), fun _ => ⟨by omega, by omega, by omega⟩⟩⟩
set_option maxHeartbeats 4000000 in
set_option maxRecDepth 100000 in
theorem q_add_z {ws0 : List Cond} {tb : String → gz_T} (hws : ∀ w ∈ gr_ws, w ∈ ws0) (htb : tb RX13 = gr_T) (ext : gz_Sh) {n : Nat} {I : gr_I} {J : gr_J} (h : gq_St n I) (hn : n < 64) (a1 : Int) (ha1 : (-2147483648) ≤ a1 ∧ a1 ≤ 2147483647) (β : Int → Int) (N9 : Int) (y0 : gs_TX β N9 (I 56)) (y1 : N9 = I 0 68) : ∃ r h', gz_Ev ws0 tb 1000 (yX13_add, cX13_add, 4, (some .int)) [.inr (.inr (some 0)), .inl a1] (gr_sh ++ ext) (gr_h I J) r (gr_sh ++ ext) h' 0 0 ∧ (∃ (I' : gr_I) (J' : gr_J), h' = gr_h I' J' ∧ gq_St (n + 1) I' ∧ (gq_T I J I' J' ∧ ∀ k, I' 56 k = I 56 k) ∧ (∃ z : Int, r = some (.inl z) ∧ (-2147483648) ≤ z ∧ z ≤ 2147483647 ∧ ((0 ≤ a1 ∧ a1 < I 0 1) → I' 0 68 = 0 ∧ I' 0 0 = 0 ∧ ((1 ≤ gs_sn β N9 25 0 0 ∧ z = I 0 206 + 1 ∧ I' 0 206 = I 0 206 + 1) ∨ (gs_sn β N9 25 0 0 ≤ 0 ∧ z = -3 ∧ I' 0 206 = I 0 206))) ∧ (¬ (0 ≤ a1 ∧ a1 < I 0 1) → I' 0 68 = I 0 68 ∧ I' 0 0 = 1 ∧ I' 0 206 = I 0 206))) := by
  obtain ⟨⟨hI, KTM, KVF, KGR, KTO, KFM, KFV, KPL, KOX⟩, KLE, b1, b2, b3, b4, b5⟩ := h
  have rt := (show 0 ≤ I 0 68 ∧ I 0 68 ≤ 1000 from (hI 0 68).1)
  obtain ⟨r, h1, E, P⟩ := r_add_z (ws0 := ws0) (tb := tb) hws htb ext β N9 I J hI a1 ha1 (by omega) y0 y1
  obtain ⟨I', J', e1, hI', F, G, ⟨z, hr, q⟩⟩ := P
  have KTM' := gr_TM_fr KTM (fun k => F 52 k rfl) (fun k => F 53 k rfl) (fun k => F 54 k rfl) (F 0 64 rfl)
  have KVF' := gr_VF_fr KVF (fun k => F 14 k rfl) (fun k => F 13 k rfl)
  have KGR' := gr_GR_fr KGR (fun k => F 19 k rfl) (fun k => F 18 k rfl) (fun k => F 36 k rfl) (fun k => F 41 k rfl) (fun k => F 42 k rfl) (fun k => F 43 k rfl) (fun k => F 45 k rfl) (fun k => F 46 k rfl) (fun k => F 47 k rfl) (fun k => F 6 k rfl) (fun k => F 7 k rfl) (fun k => F 8 k rfl) (F 0 3 rfl)
  have KTO' := gr_TO_fr KTO (fun k => F 52 k rfl) (fun k => F 53 k rfl) (fun k => F 54 k rfl) (fun k => F 55 k rfl) (fun k => F 6 k rfl) (F 0 64 rfl) (F 0 3 rfl)
  have KFM' := gr_FM_fr KFM (fun k => F 10 k rfl) (fun k => F 55 k rfl) (fun k => F 52 k rfl) (fun k => F 53 k rfl) (fun k => F 54 k rfl) (F 0 64 rfl) (F 0 3 rfl)
  have KFV' := gr_FV_fr KFV (fun k => F 87 k rfl) (fun k => F 88 k rfl) (fun k => F 104 k rfl) (fun k => F 90 k rfl) (fun k => F 91 k rfl) (fun k => F 92 k rfl) (fun k => F 94 k rfl) (fun k => F 95 k rfl) (fun k => F 97 k rfl) (fun k => F 98 k rfl) (fun k => F 19 k rfl) (fun k => F 18 k rfl) (fun k => F 41 k rfl) (fun k => F 6 k rfl) (fun k => F 99 k rfl) (fun k => F 105 k rfl) (fun k => F 107 k rfl) (fun k => F 108 k rfl) (fun k => F 110 k rfl) (fun k => F 111 k rfl) (F 0 157 rfl) (F 0 158 rfl) (F 0 177 rfl) (F 0 186 rfl) (F 0 159 rfl) hI
  have KPL' := gr_PL_fr KPL (fun k => F 114 k rfl) (fun k => F 115 k rfl) (fun k => F 6 k rfl) (F 0 3 rfl)
  have KOX' := gr_OX_fr KOX (fun k => F 121 k rfl) (fun k => F 120 k rfl)
  have e59 := F 0 59 rfl
  have e42 := F 0 42 rfl
  have e64 := F 0 64 rfl
  have e100 := F 0 100 rfl
  have KLE' : gr_LE (20 * ((n + 1 : Nat) : Int)) I' := gr_LE_tp KLE (fun k => F 19 k rfl) (by omega)
  exact ⟨r, h1, gz_Ev_mono (d := 3) (by decide) E, I', J', e1, ⟨⟨hI', KTM', KVF', KGR', KTO', KFM', KFV', KPL', KOX'⟩, KLE', by omega, by omega, by omega, by omega, by omega⟩, ⟨gq_Tof F G (by decide) (by decide), fun k => F 56 k rfl⟩, ⟨z, hr, by omega, by omega, q.2.2.2.1, q.2.2.2.2⟩⟩
theorem gk_add_z {ws0 : List Cond} {tb : String → gz_T} (hw : gc_Wc ws0) (hws : gc_Ws ws0) (htb : gc_tbs tb) {sh : gz_Sh} {ro : Nat → Nat} {I : gr_I} {J : gr_J} {A : gc_A} (hs : gh_HS sh ro I J A) (hc : gh_HC sh ro A I) (a1 : Int) (β : Int → Int) (η : Int) (y0 : gs_TX β η (I 24)) (y1 : η = I 23 1) (ra1 : (-2147483648) ≤ a1 ∧ a1 ≤ 2147483647) (h9 : I 100 9 ≤ 99) (hlen : sh.length + 1 ≤ 1000000) : ((0 ≤ a1 ∧ a1 < I 8 1) ∧ ∃ (z : Int) (a s : Nat) (sh' : gz_Sh) (ro' : Nat → Nat) (I' : gr_I) (J' : gr_J) (A' : gc_A), gz_Ev ws0 tb 100 (yX12_add, cX12_add, 3, (some .int)) [.inr (.inr (some 0)), .inl a1] sh (gc_h sh I J A) (some (.inl z)) sh' (gc_h sh' I' J' A') a s ∧ gh_AD sh ro I A a s sh' ro' I' J' A' ∧ (∀ q j : Nat, J' q j = J q j) ∧ ((1 ≤ gs_sn β η 25 0 0 ∧ z = I 100 9 + 1 ∧ I' 100 9 = I 100 9 + 1) ∨ (gs_sn β η 25 0 0 ≤ 0 ∧ z = -3 ∧ I' 100 9 = I 100 9))) ∨ (¬ (0 ≤ a1 ∧ a1 < I 8 1) ∧ gk_T ws0 tb (yX12_add, cX12_add, 3, (some .int)) [.inr (.inr (some 0)), .inl a1] sh I J A px_IAE) := by
  by_cases c : 0 ≤ a1 ∧ a1 < I 8 1
  · obtain ⟨z, a, s, sh', ro', I', J', A', E9, K9⟩ := hh_add_z hw hws htb hs hc a1 β η y0 y1 c h9 hlen
    exact Or.inl ⟨c, z, a, s, sh', ro', I', J', A', gz_Ev_mono (d := 98) (by decide) E9, K9⟩
  · exact Or.inr ⟨c, ht_add_t hws htb hs a1 ra1 (by omega)⟩
set_option maxHeartbeats 1000000 in
theorem gp_addx {ws0 : List Cond} {tb : String → gz_T} (hws : gc_Ws ws0) (htb : gc_tbs tb) (hwr : ∀ w ∈ gr_ws, w ∈ ws0) (htr : tb RX13 = gr_T) (ext : gz_Sh) {n a s : Nat} {sh : gz_Sh} {ro : Nat → Nat} {I : gr_I} {J : gr_J} {A : gc_A} {Ir : gr_I} {Jr : gr_J} (h : gp_P n a s sh ro I J A Ir Jr) (hn : n < 64) (hw : gc_Wc ws0) (a1 : Int) (ra1 : (-2147483648) ≤ a1 ∧ a1 ≤ 2147483647) : ∃ (z : Int) (Ir' : gr_I) (Jr' : gr_J), gz_Ev ws0 tb 1000 (yX13_add, cX13_add, 4, (some .int)) [.inr (.inr (some 0)), .inl a1] (gr_sh ++ ext) (gr_h Ir Jr) (some (.inl z)) (gr_sh ++ ext) (gr_h Ir' Jr') 0 0 ∧ gr_Inv Ir' ∧ ((-2147483648) ≤ z ∧ z ≤ 2147483647) ∧ ((∃ (a9 s1 : Nat) (sh' : gz_Sh) (ro' : Nat → Nat) (I' : gr_I) (J' : gr_J) (A' : gc_A), gz_Ev ws0 tb 100 (yX12_add, cX12_add, 3, (some .int)) [.inr (.inr (some 0)), .inl a1] sh (gc_h sh I J A) (some (.inl z)) sh' (gc_h sh' I' J' A') a9 s1 ∧ Ir' 0 0 = 0 ∧ gp_P (n + 1) (a + a9) (s + s1) sh' ro' I' J' A' Ir' Jr') ∨ (gk_T ws0 tb (yX12_add, cX12_add, 3, (some .int)) [.inr (.inr (some 0)), .inl a1] sh I J A px_IAE ∧ Ir' 0 0 = 1 ∧ gp_P (n + 1) (a + 1) (s + 6) sh ro I J A Ir' Jr')) := by
  have hs := h.1.1
  have hc := h.1.2.1
  have hR := h.2.2.1
  have e1 : I 8 1 = Ir 0 1 := hR.2.2.2.1.1
  have e3 := h.2.2.2.1
  have h6 := h.2.2.2.2.1
  have h7 := h.2.2.2.2.2
  have i3 := gk_tp hs
  have ok := gk_aok h.1 (by omega)
  obtain ⟨rr, h', E, Ir', Jr', rfl, q, t, z, rfl, l1, l2, P1, P2⟩ := q_add_z hwr htr ext h.2.1.1 hn a1 ra1 (gp_tx (I 23 1) (I 24)) (I 23 1) (gp_TX2 (fun k hk => (h6 k hk).symm)) e3
  rcases gk_add_z hw hws htb hs hc a1 (gp_tx (I 23 1) (I 24)) (I 23 1) (gp_TX _ _) rfl ra1 ok.1 ok.2 with ⟨c, z9, x9, s9, sh', ro', I', J', A', E9, K9, j9, d9⟩ | ⟨c, T9⟩
  · obtain ⟨u1, u2, u3⟩ := P1 (by omega)
    have hz : z9 = z := by omega
    rw [hz] at E9
    exact ⟨_, Ir', Jr', E, q.1.1, ⟨l1, l2⟩, Or.inl ⟨x9, s9, sh', ro', I', J', A', E9, u2, gp_ad h K9 j9 q t.1 u1 (by omega)⟩⟩
  · obtain ⟨u1, u2, u4⟩ := P2 (by omega)
    exact ⟨_, Ir', Jr', E, q.1.1, ⟨l1, l2⟩, Or.inr ⟨T9, u2, gp_th h q ⟨t.1, t.2, u4⟩ u1⟩⟩
