/-! number() on both sides, with its answer. -/
def gs_on (β : Int → Int) (η : Int) : Int64 := if gs_T β η 0 = 1 ∧ gs_T β η (gs_X β η 0) = 4 then gs_M β η 0 else Int64.ofNat 0
theorem gs_on_y {β : Int → Int} {η : Int} (h1 : gs_T β η 0 = 1) (h2 : gs_T β η (gs_X β η 0) = 4) : gs_on β η = gs_M β η 0 := if_pos ⟨h1, h2⟩
theorem gs_on_n {β : Int → Int} {η : Int} (h : ¬ (gs_T β η 0 = 1 ∧ gs_T β η (gs_X β η 0) = 4)) : gs_on β η = Int64.ofNat 0 := if_neg h
def gs_nz (o : Int64) (f : Nat → Int64) (n : Int) : Int := if o = Int64.ofNat 0 then -1 else gc_fd f o (Int.toNat n)
theorem gs_nz_z {o : Int64} {f : Nat → Int64} {n : Int} (h : o = Int64.ofNat 0) : gs_nz o f n = -1 := if_pos h
theorem gs_nz_y {o : Int64} {f : Nat → Int64} {n : Int} (h : ¬ o = Int64.ofNat 0) : gs_nz o f n = gc_fd f o (Int.toNat n) := if_neg h
theorem gs_nz_c {w o : Int64} {f g : Nat → Int64} {n m z : Int} (hz : z = gc_fd f w (Int.toNat n)) (hw : w = o) (h0 : ¬ w = Int64.ofNat 0) (hf : ∀ j, f j = g j) (hn : n = m) : z = gs_nz o g m := by
  rw [hz, ← hw, show f = g from funext hf, hn]
  exact (gs_nz_y h0).symm
def gs_nr (β : Int → Int) (N : Int) (g : Int → Int64) (n : Int) : Int := if gs_T β N 0 = 1 ∧ gs_T β N (gs_X β N 0) = 4 then gs_find g n (gs_rn β N 0) else -1
theorem gs_nr_y {β : Int → Int} {N n : Int} {g : Int → Int64} (h1 : gs_T β N 0 = 1) (h2 : gs_T β N (gs_X β N 0) = 4) : gs_nr β N g n = gs_find g n (gs_rn β N 0) := if_pos ⟨h1, h2⟩
theorem gs_nr_n {β : Int → Int} {N n : Int} {g : Int → Int64} (h : ¬ (gs_T β N 0 = 1 ∧ gs_T β N (gs_X β N 0) = 4)) : gs_nr β N g n = -1 := if_neg h
theorem gs_nr_c {β : Int → Int} {N n m z : Int} {f g : Int → Int64} {w : Int64} (hz : z = gs_find f n w) (hw : w = gs_rn β N 0) (h1 : gs_T β N 0 = 1) (h2 : gs_T β N (gs_X β N 0) = 4) (hf : ∀ i, f i = g i) (hn : n = m) : z = gs_nr β N g m := by
  rw [hz, hw, show f = g from funext hf, hn]
  exact (gs_nr_y h1 h2).symm
theorem gs_al_z {c r : Int64} (h : gs_al c r) : ¬ c = Int64.ofNat 0 := fun e => by
  obtain ⟨l, hl, ⟨a1, a2, a3⟩, a4⟩ := h
  rw [e] at a3
  exact a3 (by decide +kernel)
theorem gs_nz_nr {β : Int → Int} {η n : Int} {f : Nat → Int64} {g : Int → Int64} (h : ∀ k : Nat, (k : Int) < n → gs_al (f k) (g (k : Int))) : gs_nz (gs_on β η) f n = gs_nr β η g n := by
  by_cases c : gs_T β η 0 = 1 ∧ gs_T β η (gs_X β η 0) = 4
  · have a := gs_al_p (β := β) (N := η) (p := 0) c.1
    rw [gs_on_y c.1 c.2, gs_nr_y c.1 c.2, gs_nz_y (gs_al_z a)]
    exact gs_NA_find h a
  · rw [gs_on_n c, gs_nr_n c, gs_nz_z rfl]
theorem gs_nz_GN {β : Int → Int} {η : Int} {p row f : Nat} {I : gr_I} {J : gr_J} {Ir : gr_I} {Jr : gr_J} (h : gs_GN p row f I J Ir Jr) : gs_nz (gs_on β η) (J (p + 1)) (I p 1) = gs_nr β η (fun i => Jr row (Int.toNat (0 + i))) (Ir 0 f) := by
  rw [← h.1]
  refine gs_nz_nr (fun k hk => ?_)
  show gs_al (J (p + 1) k) (Jr row (Int.toNat (0 + (k : Int))))
  rw [show Int.toNat (0 + (k : Int)) = k from by omega]
  exact h.2 k hk
theorem gs_nz_NA {β : Int → Int} {η n m o : Int} {row : Nat} {f : Nat → Int64} {Jr : gr_J} (e : n = m) (h : gs_NA n f (fun k => Jr row (Int.toNat (o + (k : Int))))) : gs_nz (gs_on β η) f n = gs_nr β η (fun i => Jr row (Int.toNat (o + i))) m := by
  rw [← e]
  exact gs_nz_nr (fun k hk => h k hk)
theorem gs_T_p {β : Int → Int} {N p : Int} : 1 ≤ gs_T β N p := by
  unfold gs_T
  split
  · omega
  · split
    · omega
    · split
      · omega
      · split
        · split <;> omega
        · split
          · rename_i h
            have := gs_ix h
            omega
          · omega
theorem gs_k_1 {t : Int} : gs_k t = 1 ↔ t = 1 := by
  unfold gs_k
  by_cases c : t = 4
  · rw [if_pos c]
    omega
  · rw [if_neg c]
    by_cases d : 6 ≤ t
    · rw [if_pos d]
      omega
    · rw [if_neg d]
theorem gs_k_0 {t : Int} (h : 1 ≤ t) : gs_k t = 0 ↔ t = 4 := by
  unfold gs_k
  by_cases c : t = 4
  · rw [if_pos c]
    omega
  · rw [if_neg c]
    by_cases d : 6 ≤ t
    · rw [if_pos d]
      omega
    · rw [if_neg d]
      omega
/-- what the reference's number() answers -/
def gs_NR (β : Int → Int) (N a1 a2 : Int) (I : gr_I) (J : gr_J) (z : Int) : Prop := (a2 = 0 → z = gs_nr β N (fun i => J 1 (Int.toNat (0 + i))) (I 0 1)) ∧ (a2 = 1 → z = gs_nr β N (fun i => J 2 (Int.toNat (0 + i))) (I 0 2)) ∧ (a2 = 2 → z = gs_nr β N (fun i => J 3 (Int.toNat (0 + i))) (I 0 3)) ∧ (a2 = 3 → z = gs_nr β N (fun i => J 20 (Int.toNat (8 * a1 + i))) (I 13 (Int.toNat a1))) ∧ (a2 = 4 → z = gs_nr β N (fun i => J 21 (Int.toNat (48 * a1 + i))) (I 14 (Int.toNat a1))) ∧ (a2 = 5 → z = gs_nr β N (fun i => J 23 (Int.toNat (24 * a1 + i))) (I 17 (Int.toNat a1)))
theorem gs_NR_n {β : Int → Int} {N a1 a2 z : Int} {I : gr_I} {J : gr_J} (h : ¬ (gs_T β N 0 = 1 ∧ gs_T β N (gs_X β N 0) = 4)) (e : z = -1) : gs_NR β N a1 a2 I J z := by
  unfold gs_NR
  rw [gs_nr_n h, gs_nr_n h, gs_nr_n h, gs_nr_n h, gs_nr_n h, gs_nr_n h]
  exact ⟨fun _ => e, fun _ => e, fun _ => e, fun _ => e, fun _ => e, fun _ => e⟩
set_option maxHeartbeats 4000000 in
set_option maxRecDepth 100000 in
theorem d_X9_onlyName_p {ws0 : List Cond} {tb : String → gz_T} (hws : gc_Ws ws0) (htb : gc_tbs tb) (sh : gz_Sh) (ro : Nat → Nat) (I : gr_I) (J : gr_J) (A : gc_A) (hI : gc_Inv ro I) (p : Nat) (β : Int → Int) (η : Int) (hp : gc_isText sh ro A p) (x0 : gs_TX β η (I (p + 1))) (x1 : η = I p 1) : ∃ r h', gz_Ev ws0 tb 4 (yX9_onlyName, cX9_onlyName, 3, (some .long)) [.inr (.inr (some p))] sh (gc_h sh I J A) r sh h' 0 0 ∧ (∃ (I' : gr_I) (J' : gr_J), h' = gc_h sh I' J' A ∧ gc_Inv ro I' ∧ (∀ q j : Nat, ((q = p ∧ j = 5) ∨ (q = p ∧ j = 6) ∨ (q = p ∧ j = 7) ∨ (q = p ∧ j = 8)) ∨ I' q j = I q j) ∧ (∀ q j : Nat, ((q = p ∧ j = 9)) ∨ J' q j = J q j) ∧ (∃ z : Int64, r = some (.inr (.inl z)) ∧ (I' p 5 ≤ I' p 6) ∧ (I' p 7 = 5 ∨ I' p 6 ≤ I' p 1) ∧ (I' p 5 ≤ I' p 1) ∧ (I' p 7 = 4 ∨ (I' p 5 < I' p 6 ∧ I' p 5 < I' p 1)) ∧ (I' p 7 = 3 → 2 ≤ I' p 6 - I' p 5 ∧ I' p 6 - I' p 5 ≤ 14) ∧ (I' p 1 = I p 1) ∧ (z = gs_on β η))) := by
  have FI : ∀ q j : Nat, ((q = p ∧ j = 5) ∨ (q = p ∧ j = 6) ∨ (q = p ∧ j = 7) ∨ (q = p ∧ j = 8)) ∨ I q j = I q j := fun _ _ => Or.inr rfl
  have FJ : ∀ q j : Nat, ((q = p ∧ j = 9)) ∨ J q j = J q j := fun _ _ => Or.inr rfl
  obtain ⟨S_p, R_p, B_p, A_p_0, S_p_1, R_p_1, B_p_1, A_p_2, S_p_2, R_p_2, B_p_2, A_p_3, S_p_3, R_p_3, B_p_3⟩ := id hp
  have hD : gv_D (gc_E9 ws0 tb 3 (yX9_onlyName, cX9_onlyName, 3, (some .long)) kX9_onlyName) := gq_ok oX9_onlyName
  refine gc_ev9 (d := 3) (l := kX9_onlyName) (Po := fun r h' => (∃ (I' : gr_I) (J' : gr_J), h' = gc_h sh I' J' A ∧ gc_Inv ro I' ∧ (∀ q j : Nat, ((q = p ∧ j = 5) ∨ (q = p ∧ j = 6) ∨ (q = p ∧ j = 7) ∨ (q = p ∧ j = 8)) ∨ I' q j = I q j) ∧ (∀ q j : Nat, ((q = p ∧ j = 9)) ∨ J' q j = J q j) ∧ (∃ z : Int64, r = some (.inr (.inl z)) ∧ (I' p 5 ≤ I' p 6) ∧ (I' p 7 = 5 ∨ I' p 6 ≤ I' p 1) ∧ (I' p 5 ≤ I' p 1) ∧ (I' p 7 = 4 ∨ (I' p 5 < I' p 6 ∧ I' p 5 < I' p 1)) ∧ (I' p 7 = 3 → 2 ≤ I' p 6 - I' p 5 ∧ I' p 6 - I' p 5 ≤ 14) ∧ (I' p 1 = I p 1) ∧ (z = gs_on β η)))) htb rfl (Nat.le_of_ble_eq_true rfl) ?_
  have f1 := (show 0 ≤ I p 1 ∧ I p 1 ≤ 1000 from gc_in hI R_p rfl rfl)
  have f2 := (show 0 ≤ I p 5 ∧ I p 5 ≤ 1000 from gc_in hI R_p rfl rfl)
  have f3 := (show 0 ≤ I p 6 ∧ I p 6 ≤ 1001 from gc_in hI R_p rfl rfl)
  have f4 := (show 0 ≤ I p 7 ∧ I p 7 ≤ 125 from gc_in hI R_p rfl rfl)
  have L36 : ∀ (I5 : gr_I) (J6 : gr_J) (s0_7 : Int64), gc_Inv ro I5 → (∀ q j : Nat, ((q = p ∧ j = 5) ∨ (q = p ∧ j = 6) ∨ (q = p ∧ j = 7) ∨ (q = p ∧ j = 8)) ∨ I5 q j = I q j) → (∀ q j : Nat, ((q = p ∧ j = 9)) ∨ J6 q j = J q j) → ((I5 p 5 ≤ I5 p 6) ∧ (I5 p 7 = 5 ∨ I5 p 6 ≤ I5 p 1) ∧ (I5 p 5 ≤ I5 p 1) ∧ (I5 p 7 = 4 ∨ (I5 p 5 < I5 p 6 ∧ I5 p 5 < I5 p 1)) ∧ (I5 p 7 = 3 → 2 ≤ I5 p 6 - I5 p 5 ∧ I5 p 6 - I5 p 5 ≤ 14) ∧ (I5 p 1 = I p 1)) → (s0_7 = gs_on β η) → gv_X (gc_E9 ws0 tb 3 (yX9_onlyName, cX9_onlyName, 3, (some .long)) kX9_onlyName) (gv_Q cX9_onlyName (some .long) sh (fun r h' => (∃ (I' : gr_I) (J' : gr_J), h' = gc_h sh I' J' A ∧ gc_Inv ro I' ∧ (∀ q j : Nat, ((q = p ∧ j = 5) ∨ (q = p ∧ j = 6) ∨ (q = p ∧ j = 7) ∨ (q = p ∧ j = 8)) ∨ I' q j = I q j) ∧ (∀ q j : Nat, ((q = p ∧ j = 9)) ∨ J' q j = J q j) ∧ (∃ z : Int64, r = some (.inr (.inl z)) ∧ (I' p 5 ≤ I' p 6) ∧ (I' p 7 = 5 ∨ I' p 6 ≤ I' p 1) ∧ (I' p 5 ≤ I' p 1) ∧ (I' p 7 = 4 ∨ (I' p 5 < I' p 6 ∧ I' p 5 < I' p 1)) ∧ (I' p 7 = 3 → 2 ≤ I' p 6 - I' p 5 ∧ I' p 6 - I' p 5 ≤ 14) ∧ (I' p 1 = I p 1) ∧ (z = gs_on β η))))) (36, [], [.inr (.inl s0_7)], sh, gc_h sh I5 J6 A) := by
    intro I5 J6 s0_7 hI5 FI5 FJ6 m_7 o_7
    obtain ⟨e0_7, e1_7, e2_7, e3_7, e4_7, e5_7⟩ := m_7
    have f8 := (show 0 ≤ I5 p 1 ∧ I5 p 1 ≤ 1000 from gc_in hI5 R_p rfl rfl)
    have f9 := (show 0 ≤ I5 p 5 ∧ I5 p 5 ≤ 1000 from gc_in hI5 R_p rfl rfl)
    have f10 := (show 0 ≤ I5 p 6 ∧ I5 p 6 ≤ 1001 from gc_in hI5 R_p rfl rfl)
    have f11 := (show 0 ≤ I5 p 7 ∧ I5 p 7 ≤ 125 from gc_in hI5 R_p rfl rfl)
    exact gv_lret hD rfl ⟨I5, J6, rfl, hI5, FI5, FJ6, ⟨_, rfl, by omega, by omega, by omega, by omega, by omega, by omega, o_7⟩⟩
  refine gv_run 1 true hD (pc' := 1) (lv' := [(0, .inr (.inr (some p)))]) (st' := [.inr (.inr (some p))]) (h' := gc_h sh I J A) (C := (True ∧ True)) rfl ⟨trivial, trivial⟩ ?_
  obtain ⟨r12, h12, E12, P12⟩ := d_X9_rewind_p (ws0 := ws0) (tb := tb) hws htb sh ro I J A hI p β η hp x0 x1
  obtain ⟨I13, J14, rfl, hI13, g12, k12, ⟨rfl, V12_0, V12_1, V12_2, V12_3, V12_4, q12⟩⟩ := P12
  have aT0 : gc_AT β η 0 p I13 J14 := q12.2.2
  have FI13 := gc_frc (W := fun q j => (q = p ∧ j = 5) ∨ (q = p ∧ j = 6) ∨ (q = p ∧ j = 7) ∨ (q = p ∧ j = 8)) (V := fun q j => (q = p ∧ j = 5) ∨ (q = p ∧ j = 6) ∨ (q = p ∧ j = 7) ∨ (q = p ∧ j = 8)) FI (fun q j h => (h.elim (fun h => (Or.inl h)) (fun h => (h.elim (fun h => (Or.inr (Or.inl h))) (fun h => (h.elim (fun h => (Or.inr (Or.inr (Or.inl h)))) (fun h => (Or.inr (Or.inr (Or.inr h)))))))))) g12
  have FJ14 := gc_frc (W := fun q j => (q = p ∧ j = 9)) (V := fun q j => (q = p ∧ j = 9)) FJ (fun q j h => h) k12
  have t15 := (g12 p 1).resolve_left (fun h => h.elim (fun h => absurd h.2 (by decide)) (fun h => h.elim (fun h => absurd h.2 (by decide)) (fun h => h.elim (fun h => absurd h.2 (by decide)) (fun h => absurd h.2 (by decide)))))
  have f16 := (show 0 ≤ I13 p 5 ∧ I13 p 5 ≤ 1000 from gc_in hI13 R_p rfl rfl)
  have f17 := (show 0 ≤ I13 p 6 ∧ I13 p 6 ≤ 1001 from gc_in hI13 R_p rfl rfl)
  have f18 := (show 0 ≤ I13 p 7 ∧ I13 p 7 ≤ 125 from gc_in hI13 R_p rfl rfl)
  refine gv_callV hD rfl (As := []) (st := []) rfl B_p S_p rfl (gc_lV9 hws rfl) (Nat.le_of_ble_eq_true rfl) (gz_Ev_mono (d := 3) (by decide) E12) ?_
  show gv_X _ _ (4, [(0, .inr (.inr (some p)))], [], sh, gc_h sh I13 J14 A)
  refine gv_run 1 true hD (pc' := 5) (lv' := [(0, .inr (.inr (some p)))]) (st' := [.inr (.inr (some p))]) (h' := gc_h sh I13 J14 A) (C := (True ∧ True)) rfl ⟨trivial, trivial⟩ ?_
  have f19 := (show 0 ≤ I13 p 7 ∧ I13 p 7 ≤ 125 from gc_in hI13 R_p rfl rfl)
  refine gv_get hD rfl rfl S_p ⟨by decide, B_p⟩ (gc_hI S_p rfl) ?_
  show gv_X _ _ (8, [(0, .inr (.inr (some p)))], [.inl (I13 p 7)], sh, gc_h sh I13 J14 A)
  refine gv_run 1 true hD (pc' := 9) (lv' := [(0, .inr (.inr (some p)))]) (st' := [.inl 1, .inl (I13 p 7)]) (h' := gc_h sh I13 J14 A) (C := (True ∧ True)) rfl ⟨trivial, trivial⟩ ?_
  refine gv_icmp_eq (t := 14) hD rfl rfl ⟨⟨by omega, by omega⟩, ⟨by omega, by omega⟩⟩ (fun c20 => ?_) (fun c20 => ?_)
  · show gv_X _ _ (14, [(0, .inr (.inr (some p)))], [], sh, gc_h sh I13 J14 A)
    refine gv_run 1 true hD (pc' := 15) (lv' := [(0, .inr (.inr (some p)))]) (st' := [.inr (.inr (some p))]) (h' := gc_h sh I13 J14 A) (C := (True ∧ True)) rfl ⟨trivial, trivial⟩ ?_
    refine gv_get hD rfl rfl S_p ⟨by decide, B_p⟩ (gc_hJ S_p rfl) ?_
    show gv_X _ _ (18, [(0, .inr (.inr (some p)))], [.inr (.inl (J14 p 9))], sh, gc_h sh I13 J14 A)
    refine gv_run 2 true hD (pc' := 20) (lv' := [(1, .inr (.inl (J14 p 9))), (0, .inr (.inr (some p)))]) (st' := [.inr (.inr (some p))]) (h' := gc_h sh I13 J14 A) (C := ((True ∧ True) ∧ True)) rfl ⟨⟨trivial, trivial⟩, trivial⟩ ?_
    obtain ⟨r21, h21, E21, P21⟩ := d_X9_advance_p (ws0 := ws0) (tb := tb) hws htb sh ro I13 J14 A hI13 p β η hp (by omega) aT0.1.1 aT0.1.2
    obtain ⟨I22, J23, rfl, hI22, g21, k21, ⟨rfl, V21_0, V21_1, V21_2, V21_3, V21_4, q21⟩⟩ := P21
    have aT1 : I22 p 7 = gs_T β η (gs_X β η 0) := by
      have h9 : gc_AT β η (I13 p 6) p I22 J23 := q21.2.2.2
      have h8 := h9.2.1
      rw [aT0.2.2.2.1] at h8
      exact h8
    have FI22 := gc_frc (W := fun q j => (q = p ∧ j = 5) ∨ (q = p ∧ j = 6) ∨ (q = p ∧ j = 7) ∨ (q = p ∧ j = 8)) (V := fun q j => (q = p ∧ j = 5) ∨ (q = p ∧ j = 6) ∨ (q = p ∧ j = 7) ∨ (q = p ∧ j = 8)) FI13 (fun q j h => (h.elim (fun h => (Or.inl h)) (fun h => (h.elim (fun h => (Or.inr (Or.inl h))) (fun h => (h.elim (fun h => (Or.inr (Or.inr (Or.inl h)))) (fun h => (Or.inr (Or.inr (Or.inr h)))))))))) g21
    have FJ23 := gc_frc (W := fun q j => (q = p ∧ j = 9)) (V := fun q j => (q = p ∧ j = 9)) FJ14 (fun q j h => h) k21
    have t24 := (g21 p 1).resolve_left (fun h => h.elim (fun h => absurd h.2 (by decide)) (fun h => h.elim (fun h => absurd h.2 (by decide)) (fun h => h.elim (fun h => absurd h.2 (by decide)) (fun h => absurd h.2 (by decide)))))
    have f25 := (show 0 ≤ I22 p 5 ∧ I22 p 5 ≤ 1000 from gc_in hI22 R_p rfl rfl)
    have f26 := (show 0 ≤ I22 p 6 ∧ I22 p 6 ≤ 1001 from gc_in hI22 R_p rfl rfl)
    have f27 := (show 0 ≤ I22 p 7 ∧ I22 p 7 ≤ 125 from gc_in hI22 R_p rfl rfl)
    have t28 : I13 p 5 ≤ I22 p 5 ∧ (I13 p 7 = 4 ∨ I13 p 5 < I22 p 5) := by omega
    clear V12_0 V12_1 V12_2 V12_3 V12_4
    refine gv_callV hD rfl (As := []) (st := []) rfl B_p S_p rfl (gc_lV9 hws rfl) (Nat.le_of_ble_eq_true rfl) (gz_Ev_mono (d := 2) (by decide) E21) ?_
    show gv_X _ _ (23, [(1, .inr (.inl (J14 p 9))), (0, .inr (.inr (some p)))], [], sh, gc_h sh I22 J23 A)
    refine gv_run 1 true hD (pc' := 24) (lv' := [(1, .inr (.inl (J14 p 9))), (0, .inr (.inr (some p)))]) (st' := [.inr (.inr (some p))]) (h' := gc_h sh I22 J23 A) (C := (True ∧ True)) rfl ⟨trivial, trivial⟩ ?_
    have f29 := (show 0 ≤ I22 p 7 ∧ I22 p 7 ≤ 125 from gc_in hI22 R_p rfl rfl)
    refine gv_get hD rfl rfl S_p ⟨by decide, B_p⟩ (gc_hI S_p rfl) ?_
    show gv_X _ _ (27, [(1, .inr (.inl (J14 p 9))), (0, .inr (.inr (some p)))], [.inl (I22 p 7)], sh, gc_h sh I22 J23 A)
    refine gv_run 1 true hD (pc' := 28) (lv' := [(1, .inr (.inl (J14 p 9))), (0, .inr (.inr (some p)))]) (st' := [.inl 4, .inl (I22 p 7)]) (h' := gc_h sh I22 J23 A) (C := (True ∧ True)) rfl ⟨trivial, trivial⟩ ?_
    refine gv_icmp_ne (t := 35) hD rfl rfl ⟨⟨by omega, by omega⟩, ⟨by omega, by omega⟩⟩ (fun c30 => ?_) (fun c30 => ?_)
    · show gv_X _ _ (35, [(1, .inr (.inl (J14 p 9))), (0, .inr (.inr (some p)))], [], sh, gc_h sh I22 J23 A)
      refine gv_run 1 true hD (pc' := 36) (lv' := [(1, .inr (.inl (J14 p 9))), (0, .inr (.inr (some p)))]) (st' := [.inr (.inl (Int64.ofNat 0))]) (h' := gc_h sh I22 J23 A) (C := (True ∧ True)) rfl ⟨trivial, trivial⟩ ?_
      refine gv_pick [] rfl ?_
      exact L36 I22 J23 (Int64.ofNat 0) hI22 FI22 FJ23 (by omega) (gs_on_n (fun h9 => by omega)).symm
    · show gv_X _ _ (31, [(1, .inr (.inl (J14 p 9))), (0, .inr (.inr (some p)))], [], sh, gc_h sh I22 J23 A)
      refine gv_run 2 true hD (pc' := 36) (lv' := [(1, .inr (.inl (J14 p 9))), (0, .inr (.inr (some p)))]) (st' := [.inr (.inl (J14 p 9))]) (h' := gc_h sh I22 J23 A) (C := ((True ∧ True) ∧ True)) rfl ⟨⟨trivial, trivial⟩, trivial⟩ ?_
      refine gv_pick [] rfl ?_
      exact L36 I22 J23 (J14 p 9) hI22 FI22 FJ23 (by omega) ((aT0.2.2.2.2.2 (by have h9 := aT0.2.1; omega)).trans (gs_on_y (by have h9 := aT0.2.1; omega) (by omega)).symm)
  · show gv_X _ _ (12, [(0, .inr (.inr (some p)))], [], sh, gc_h sh I13 J14 A)
    refine gv_run 1 true hD (pc' := 13) (lv' := [(0, .inr (.inr (some p)))]) (st' := [.inr (.inl (Int64.ofNat 0))]) (h' := gc_h sh I13 J14 A) (C := (True ∧ True)) rfl ⟨trivial, trivial⟩ ?_
    exact gv_lret hD rfl ⟨I13, J14, rfl, hI13, FI13, FJ14, ⟨_, rfl, by omega, by omega, by omega, by omega, by omega, by omega, (gs_on_n (fun h9 => by have h8 := aT0.2.1; omega)).symm⟩⟩
set_option maxHeartbeats 4000000 in
set_option maxRecDepth 100000 in
theorem d_X12_number_0_p {ws0 : List Cond} {tb : String → gz_T} (hws : gc_Ws ws0) (htb : gc_tbs tb) (sh : gz_Sh) (ro : Nat → Nat) (I : gr_I) (J : gr_J) (A : gc_A) (hI : gc_Inv ro I) (a1 : Int) (a2 : Int) (β : Int → Int) (η : Int) (hb : gc_Base sh ro A) (ha1 : (-2147483648) ≤ a1 ∧ a1 ≤ 2147483647) (ha2 : 0 ≤ a2 ∧ a2 ≤ 0) (y0 : gs_TX β η (I 24)) (y1 : η = I 23 1) : ∃ r h', gz_Ev ws0 tb 5 (yX12_number, cX12_number, 6, (some .int)) [.inr (.inr (some 0)), .inl a1, .inl a2] sh (gc_h sh I J A) r sh h' 0 0 ∧ (∃ (I' : gr_I) (J' : gr_J), h' = gc_h sh I' J' A ∧ gc_Inv ro I' ∧ (∀ q j : Nat, ((q = 23 ∧ j = 1) ∨ (q = 23 ∧ j = 5) ∨ (q = 23 ∧ j = 6) ∨ (q = 23 ∧ j = 7) ∨ (q = 23 ∧ j = 8)) ∨ I' q j = I q j) ∧ (∀ q j : Nat, ((q = 23 ∧ j = 9)) ∨ J' q j = J q j) ∧ (∃ z : Int, r = some (.inl z) ∧ (-1) ≤ z ∧ z ≤ 399 ∧ (I' 23 1 = 0) ∧ (z = gs_nz (gs_on β η) (J 9) (I 8 1)))) := by
  have FI : ∀ q j : Nat, ((q = 23 ∧ j = 1) ∨ (q = 23 ∧ j = 5) ∨ (q = 23 ∧ j = 6) ∨ (q = 23 ∧ j = 7) ∨ (q = 23 ∧ j = 8)) ∨ I q j = I q j := fun _ _ => Or.inr rfl
  have FJ : ∀ q j : Nat, ((q = 23 ∧ j = 9)) ∨ J q j = J q j := fun _ _ => Or.inr rfl
  have A_0_0 : A 0 0 = some 1 := gc_bA hb rfl
  have A_0_1 : A 0 1 = some 23 := gc_bA hb rfl
  have A_1_0 : A 1 0 = some 2 := gc_bA hb rfl
  have A_1_3 : A 1 3 = some 8 := gc_bA hb rfl
  have B_0 : 0 < 1000000 := by decide
  have B_1 : 1 < 1000000 := by decide
  have B_23 : 23 < 1000000 := by decide
  have B_8 : 8 < 1000000 := by decide
  have R_23 : ro 23 = 3 := gc_bR hb (by decide) rfl
  have S_0 : sh[0]? = some (false, 12, 17) := gc_bS hb rfl
  have S_1 : sh[1]? = some (false, 8, 21) := gc_bS hb rfl
  have S_23 : sh[23]? = some (false, 9, 10) := gc_bS hb rfl
  have S_8 : sh[8]? = some (false, 4, 2) := gc_bS hb rfl
  have hD : gv_D (gc_E12 ws0 tb 4 (yX12_number, cX12_number, 6, (some .int)) kX12_number) := gq_ok oX12_number
  refine gc_ev12 (d := 4) (l := kX12_number) (Po := fun r h' => (∃ (I' : gr_I) (J' : gr_J), h' = gc_h sh I' J' A ∧ gc_Inv ro I' ∧ (∀ q j : Nat, ((q = 23 ∧ j = 1) ∨ (q = 23 ∧ j = 5) ∨ (q = 23 ∧ j = 6) ∨ (q = 23 ∧ j = 7) ∨ (q = 23 ∧ j = 8)) ∨ I' q j = I q j) ∧ (∀ q j : Nat, ((q = 23 ∧ j = 9)) ∨ J' q j = J q j) ∧ (∃ z : Int, r = some (.inl z) ∧ (-1) ≤ z ∧ z ≤ 399 ∧ (I' 23 1 = 0) ∧ (z = gs_nz (gs_on β η) (J 9) (I 8 1))))) htb rfl (Nat.le_of_ble_eq_true rfl) ?_
  have f1 := (show 0 ≤ I 23 1 ∧ I 23 1 ≤ 1000 from gc_in hI R_23 rfl rfl)
  have L77 : gv_X (gc_E12 ws0 tb 4 (yX12_number, cX12_number, 6, (some .int)) kX12_number) (gv_Q cX12_number (some .int) sh (fun r h' => (∃ (I' : gr_I) (J' : gr_J), h' = gc_h sh I' J' A ∧ gc_Inv ro I' ∧ (∀ q j : Nat, ((q = 23 ∧ j = 1) ∨ (q = 23 ∧ j = 5) ∨ (q = 23 ∧ j = 6) ∨ (q = 23 ∧ j = 7) ∨ (q = 23 ∧ j = 8)) ∨ I' q j = I q j) ∧ (∀ q j : Nat, ((q = 23 ∧ j = 9)) ∨ J' q j = J q j) ∧ (∃ z : Int, r = some (.inl z) ∧ (-1) ≤ z ∧ z ≤ 399 ∧ (I' 23 1 = 0) ∧ (z = gs_nz (gs_on β η) (J 9) (I 8 1)))))) (77, [(0, .inr (.inr (some 0))), (3, .inr (.inr (some 8)))], [], sh, gc_h sh I J A) := by
    have f3 := (show 0 ≤ I 23 1 ∧ I 23 1 ≤ 1000 from gc_in hI R_23 rfl rfl)
    have L111 : ∀ (I4 : gr_I) (J5 : gr_J) (s0_6 : Int), gc_Inv ro I4 → (∀ q j : Nat, ((q = 23 ∧ j = 1) ∨ (q = 23 ∧ j = 5) ∨ (q = 23 ∧ j = 6) ∨ (q = 23 ∧ j = 7) ∨ (q = 23 ∧ j = 8)) ∨ I4 q j = I q j) → (∀ q j : Nat, ((q = 23 ∧ j = 9)) ∨ J5 q j = J q j) → (((-1) ≤ s0_6 ∧ s0_6 ≤ 399) ∧ (I4 23 1 = 0)) → (s0_6 = gs_nz (gs_on β η) (J 9) (I 8 1)) → gv_X (gc_E12 ws0 tb 4 (yX12_number, cX12_number, 6, (some .int)) kX12_number) (gv_Q cX12_number (some .int) sh (fun r h' => (∃ (I' : gr_I) (J' : gr_J), h' = gc_h sh I' J' A ∧ gc_Inv ro I' ∧ (∀ q j : Nat, ((q = 23 ∧ j = 1) ∨ (q = 23 ∧ j = 5) ∨ (q = 23 ∧ j = 6) ∨ (q = 23 ∧ j = 7) ∨ (q = 23 ∧ j = 8)) ∨ I' q j = I q j) ∧ (∀ q j : Nat, ((q = 23 ∧ j = 9)) ∨ J' q j = J q j) ∧ (∃ z : Int, r = some (.inl z) ∧ (-1) ≤ z ∧ z ≤ 399 ∧ (I' 23 1 = 0) ∧ (z = gs_nz (gs_on β η) (J 9) (I 8 1)))))) (111, [], [.inl s0_6], sh, gc_h sh I4 J5 A) := by
      intro I4 J5 s0_6 hI4 FI4 FJ5 m_6 o_6
      clear f3
      obtain ⟨hs0_6, e0_6⟩ := m_6
      have f7 := (show 0 ≤ I4 23 1 ∧ I4 23 1 ≤ 1000 from gc_in hI4 R_23 rfl rfl)
      exact gv_iret hD rfl ⟨I4, J5, rfl, hI4, FI4, FJ5, ⟨_, rfl, hs0_6.1, hs0_6.2, e0_6, o_6⟩⟩
    refine gv_run 1 true hD (pc' := 78) (lv' := [(0, .inr (.inr (some 0))), (3, .inr (.inr (some 8)))]) (st' := [.inr (.inr (some 0))]) (h' := gc_h sh I J A) (C := (True ∧ True)) rfl ⟨trivial, trivial⟩ ?_
    refine gv_get hD rfl rfl S_0 ⟨by decide, B_0⟩ (gc_hA S_0 rfl A_0_1) ?_
    show gv_X _ _ (81, [(0, .inr (.inr (some 0))), (3, .inr (.inr (some 8)))], [.inr (.inr (some 23))], sh, gc_h sh I J A)
    obtain ⟨r8, h8, E8, P8⟩ := d_X9_onlyName_p (ws0 := ws0) (tb := tb) hws htb sh ro I J A hI 23 β η (gc_b23 hb) y0 y1
    obtain ⟨I9, J10, rfl, hI9, g8, k8, ⟨z8, rfl, V8_0, V8_1, V8_2, V8_3, V8_4, q8⟩⟩ := P8
    have FI9 := gc_frc (W := fun q j => (q = 23 ∧ j = 1) ∨ (q = 23 ∧ j = 5) ∨ (q = 23 ∧ j = 6) ∨ (q = 23 ∧ j = 7) ∨ (q = 23 ∧ j = 8)) (V := fun q j => (q = 23 ∧ j = 5) ∨ (q = 23 ∧ j = 6) ∨ (q = 23 ∧ j = 7) ∨ (q = 23 ∧ j = 8)) FI (fun q j h => (h.elim (fun h => (Or.inr (Or.inl h))) (fun h => (h.elim (fun h => (Or.inr (Or.inr (Or.inl h)))) (fun h => (h.elim (fun h => (Or.inr (Or.inr (Or.inr (Or.inl h))))) (fun h => (Or.inr (Or.inr (Or.inr (Or.inr h))))))))))) g8
    have FJ10 := gc_frc (W := fun q j => (q = 23 ∧ j = 9)) (V := fun q j => (q = 23 ∧ j = 9)) FJ (fun q j h => h) k8
    have t11 := (g8 23 1).resolve_left (fun h => h.elim (fun h => absurd h.2 (by decide)) (fun h => h.elim (fun h => absurd h.2 (by decide)) (fun h => h.elim (fun h => absurd h.2 (by decide)) (fun h => absurd h.2 (by decide)))))
    refine gv_callV hD rfl (As := []) (st := []) rfl B_23 S_23 rfl (gc_lV12 hws rfl) (Nat.le_of_ble_eq_true rfl) (gz_Ev_mono (d := 4) (by decide) E8) ?_
    show gv_X _ _ (84, [(0, .inr (.inr (some 0))), (3, .inr (.inr (some 8)))], [.inr (.inl z8)], sh, gc_h sh I9 J10 A)
    refine gv_run 2 true hD (pc' := 87) (lv' := [(4, .inr (.inl z8)), (0, .inr (.inr (some 0))), (3, .inr (.inr (some 8)))]) (st' := [.inr (.inr (some 0))]) (h' := gc_h sh I9 J10 A) (C := ((True ∧ True) ∧ True)) rfl ⟨⟨trivial, trivial⟩, trivial⟩ ?_
    refine gv_get hD rfl rfl S_0 ⟨by decide, B_0⟩ (gc_hA S_0 rfl A_0_1) ?_
    show gv_X _ _ (90, [(4, .inr (.inl z8)), (0, .inr (.inr (some 0))), (3, .inr (.inr (some 8)))], [.inr (.inr (some 23))], sh, gc_h sh I9 J10 A)
    refine gv_run 1 true hD (pc' := 91) (lv' := [(4, .inr (.inl z8)), (0, .inr (.inr (some 0))), (3, .inr (.inr (some 8)))]) (st' := [.inl 0, .inr (.inr (some 23))]) (h' := gc_h sh I9 J10 A) (C := (True ∧ True)) rfl ⟨trivial, trivial⟩ ?_
    refine gv_put hD rfl rfl S_23 ⟨by decide, B_23⟩ rfl trivial ?_
    refine gc_st (k := 1) hI9 S_23 rfl R_23 (lo := 0) (hi := 1000) rfl rfl (by omega) (by omega) (fun I12 hI12 q13 p13 => ?_)
    have FI12 := gc_frs (W := fun q j => (q = 23 ∧ j = 1) ∨ (q = 23 ∧ j = 5) ∨ (q = 23 ∧ j = 6) ∨ (q = 23 ∧ j = 7) ∨ (q = 23 ∧ j = 8)) FI9 (Or.inl ⟨rfl, rfl⟩) p13
    have f14 := (show 0 ≤ I12 23 1 ∧ I12 23 1 ≤ 1000 from gc_in hI12 R_23 rfl rfl)
    show gv_X _ _ (94, [(4, .inr (.inl z8)), (0, .inr (.inr (some 0))), (3, .inr (.inr (some 8)))], [], sh, gc_h sh I12 J10 A)
    have f15 := gw_cmp (z8) ((Int64.ofNat 0))
    refine gv_run 3 true hD (pc' := 98) (lv' := [(4, .inr (.inl z8)), (0, .inr (.inr (some 0))), (3, .inr (.inr (some 8)))]) (st' := [.inl ((lg_cmp (z8) ((Int64.ofNat 0))).toInt)]) (h' := gc_h sh I12 J10 A) (C := (((True ∧ True) ∧ True) ∧ True)) rfl ⟨⟨⟨trivial, trivial⟩, trivial⟩, trivial⟩ ?_
    refine gv_if_ne (t := 105) hD rfl rfl ⟨by omega, by omega⟩ (fun c16 => ?_) (fun c16 => ?_)
    · show gv_X _ _ (105, [(4, .inr (.inl z8)), (0, .inr (.inr (some 0))), (3, .inr (.inr (some 8)))], [], sh, gc_h sh I12 J10 A)
      refine gv_run 2 true hD (pc' := 108) (lv' := [(4, .inr (.inl z8)), (0, .inr (.inr (some 0))), (3, .inr (.inr (some 8)))]) (st' := [.inr (.inl z8), .inr (.inr (some 8))]) (h' := gc_h sh I12 J10 A) (C := ((True ∧ True) ∧ True)) rfl ⟨⟨trivial, trivial⟩, trivial⟩ ?_
      obtain ⟨r17, h17, E17, P17⟩ := d_X4_find (ws0 := ws0) (tb := tb) hws htb sh ro I12 J10 A hI12 8 8 6 z8 (gc_b8 hb)     
      obtain ⟨rfl, ⟨z17, rfl, q17⟩⟩ := P17
      refine gv_callV hD rfl (As := [.inr (.inl z8)]) (st := []) rfl B_8 S_8 rfl (gc_lV12 hws rfl) (Nat.le_of_ble_eq_true rfl) (gz_Ev_mono (d := 1) (by decide) E17) ?_
      show gv_X _ _ (111, [(4, .inr (.inl z8)), (0, .inr (.inr (some 0))), (3, .inr (.inr (some 8)))], [.inl z17], sh, gc_h sh I12 J10 A)
      refine gv_pick [] rfl ?_
      exact L111 I12 J10 z17 hI12 FI12 FJ10 (by omega) (gs_nz_c q17.2.2.2 q8.2 (gc_cmpn c16) (fun j => (FJ10 9 j).resolve_left (by omega)) ((FI12 8 1).resolve_left (by omega)))
    · show gv_X _ _ (101, [(4, .inr (.inl z8)), (0, .inr (.inr (some 0))), (3, .inr (.inr (some 8)))], [], sh, gc_h sh I12 J10 A)
      refine gv_run 2 true hD (pc' := 111) (lv' := [(4, .inr (.inl z8)), (0, .inr (.inr (some 0))), (3, .inr (.inr (some 8)))]) (st' := [.inl (-1)]) (h' := gc_h sh I12 J10 A) (C := ((True ∧ True) ∧ True)) rfl ⟨⟨trivial, trivial⟩, trivial⟩ ?_
      refine gv_pick [] rfl ?_
      exact L111 I12 J10 (-1) hI12 FI12 FJ10 (by omega) (gs_nz_z (q8.2.symm.trans (gc_cmp0 c16))).symm
  refine gv_run 1 true hD (pc' := 1) (lv' := [(0, .inr (.inr (some 0))), (1, .inl a1), (2, .inl a2)]) (st' := [.inl a2]) (h' := gc_h sh I J A) (C := (True ∧ True)) rfl ⟨trivial, trivial⟩ ?_
  refine gv_if_lt (t := 9) hD rfl rfl ⟨by omega, by omega⟩ (fun c18 => ?_) (fun c18 => ?_)
  · exfalso; omega
  · show gv_X _ _ (4, [(0, .inr (.inr (some 0))), (1, .inl a1), (2, .inl a2)], [], sh, gc_h sh I J A)
    refine gv_run 2 true hD (pc' := 6) (lv' := [(0, .inr (.inr (some 0))), (1, .inl a1), (2, .inl a2)]) (st' := [.inl 5, .inl a2]) (h' := gc_h sh I J A) (C := ((True ∧ True) ∧ True)) rfl ⟨⟨trivial, trivial⟩, trivial⟩ ?_
    refine gv_icmp_le (t := 19) hD rfl rfl ⟨⟨by omega, by omega⟩, ⟨by omega, by omega⟩⟩ (fun c19 => ?_) (fun c19 => ?_)
    · show gv_X _ _ (19, [(0, .inr (.inr (some 0))), (1, .inl a1), (2, .inl a2)], [], sh, gc_h sh I J A)
      refine gv_run 1 true hD (pc' := 20) (lv' := [(0, .inr (.inr (some 0))), (1, .inl a1), (2, .inl a2)]) (st' := [.inr (.inr (some 0))]) (h' := gc_h sh I J A) (C := (True ∧ True)) rfl ⟨trivial, trivial⟩ ?_
      refine gv_get hD rfl rfl S_0 ⟨by decide, B_0⟩ (gc_hA S_0 rfl A_0_0) ?_
      show gv_X _ _ (23, [(0, .inr (.inr (some 0))), (1, .inl a1), (2, .inl a2)], [.inr (.inr (some 1))], sh, gc_h sh I J A)
      refine gv_get hD rfl rfl S_1 ⟨by decide, B_1⟩ (gc_hA S_1 rfl A_1_0) ?_
      show gv_X _ _ (26, [(0, .inr (.inr (some 0))), (1, .inl a1), (2, .inl a2)], [.inr (.inr (some 2))], sh, gc_h sh I J A)
      refine gv_run 2 true hD (pc' := 28) (lv' := [(3, .inr (.inr (some 2))), (0, .inr (.inr (some 0))), (1, .inl a1), (2, .inl a2)]) (st' := [.inl a2]) (h' := gc_h sh I J A) (C := ((True ∧ True) ∧ True)) rfl ⟨⟨trivial, trivial⟩, trivial⟩ ?_
      refine gv_if_ne (t := 42) hD rfl rfl ⟨by omega, by omega⟩ (fun c20 => ?_) (fun c20 => ?_)
      · exfalso; omega
      · show gv_X _ _ (31, [(3, .inr (.inr (some 2))), (0, .inr (.inr (some 0))), (1, .inl a1), (2, .inl a2)], [], sh, gc_h sh I J A)
        refine gv_run 1 true hD (pc' := 32) (lv' := [(3, .inr (.inr (some 2))), (0, .inr (.inr (some 0))), (1, .inl a1), (2, .inl a2)]) (st' := [.inr (.inr (some 0))]) (h' := gc_h sh I J A) (C := (True ∧ True)) rfl ⟨trivial, trivial⟩ ?_
        refine gv_get hD rfl rfl S_0 ⟨by decide, B_0⟩ (gc_hA S_0 rfl A_0_0) ?_
        show gv_X _ _ (35, [(3, .inr (.inr (some 2))), (0, .inr (.inr (some 0))), (1, .inl a1), (2, .inl a2)], [.inr (.inr (some 1))], sh, gc_h sh I J A)
        refine gv_get hD rfl rfl S_1 ⟨by decide, B_1⟩ (gc_hA S_1 rfl A_1_3) ?_
        show gv_X _ _ (38, [(3, .inr (.inr (some 2))), (0, .inr (.inr (some 0))), (1, .inl a1), (2, .inl a2)], [.inr (.inr (some 8))], sh, gc_h sh I J A)
        refine gv_run 2 true hD (pc' := 77) (lv' := [(3, .inr (.inr (some 8))), (0, .inr (.inr (some 0))), (1, .inl a1), (2, .inl a2)]) (st' := []) (h' := gc_h sh I J A) (C := ((True ∧ True) ∧ True)) rfl ⟨⟨trivial, trivial⟩, trivial⟩ ?_
        refine gv_pick [1, 0] rfl ?_
        exact L77 
    · exfalso; omega
set_option maxHeartbeats 4000000 in
theorem hh_number_0_z {ws0 : List Cond} {tb : String → gz_T} (hws : gc_Ws ws0) (htb : gc_tbs tb) {sh : gz_Sh} {ro : Nat → Nat} {I : gr_I} {J : gr_J} {A : gc_A} (hs : gh_HS sh ro I J A) (hc : gh_HC sh ro A I) (a1 : Int) (a2 : Int) (ra1 : (-2147483648) ≤ a1 ∧ a1 ≤ 2147483647) (ra2 : 0 ≤ a2 ∧ a2 ≤ 0) (β : Int → Int) (η : Int) (y0 : gs_TX β η (I 24)) (y1 : η = I 23 1) : ∃ (z : Int) (I' : gr_I) (J' : gr_J), gz_Ev ws0 tb 100 (yX12_number, cX12_number, 6, (some .int)) [.inr (.inr (some 0)), .inl a1, .inl a2] sh (gc_h sh I J A) (some (.inl z)) sh (gc_h sh I' J' A) 0 0 ∧ z = gs_nz (gs_on β η) (J 9) (I 8 1) ∧ gh_K sh ro A I J I' J' (0) := by
  have hb := hs.1
  have hI := hs.2.1
  have hok := hs.2.2.1
  have hT := hs.2.2.2.1
  have hU := hs.2.2.2.2.1
  have i8 : 0 ≤ I 8 1 ∧ I 8 1 ≤ 8 := gc_in hI (gc_bR hb (by decide) rfl) rfl rfl
  have h144 := gc_Base_len hb
  obtain ⟨c1, c2, c3, c4, c5, c6, c7, c8⟩ := id hc
  obtain ⟨r, h', E, I', J', rfl, hI', g, k, z, rfl, p0, p1, p2, p3⟩ := d_X12_number_0_p hws htb sh ro I J A hI a1 a2 β η hb ⟨by omega, by omega⟩ ⟨by omega, by omega⟩ y0 y1
  have ok' : gc_OK sh I' J' A := gh_OK_g hok (fun q j => (g q j).elim (fun h => by
      rcases h with ⟨rfl, rfl⟩ | ⟨rfl, rfl⟩ | ⟨rfl, rfl⟩ | ⟨rfl, rfl⟩ | ⟨rfl, rfl⟩
      · exact Or.inl (gh_ok0 (gc_bS hb (p := 23) rfl) rfl)
      · exact Or.inl (gh_ok0 (gc_bS hb (p := 23) rfl) rfl)
      · exact Or.inl (gh_ok0 (gc_bS hb (p := 23) rfl) rfl)
      · exact Or.inl (gh_ok0 (gc_bS hb (p := 23) rfl) rfl)
      · exact Or.inl (gh_ok0 (gc_bS hb (p := 23) rfl) rfl)
      ) Or.inr) (fun q j => (k q j).imp (fun h => by omega) id)
  have hk := gh_HS_n hs hI' ok' (fun q j => (g q j).imp (fun h => by omega) id) (fun q j => (k q j).imp (fun h => by omega) id)
  refine ⟨z, I', J', gz_Ev_mono (by decide) E, p3, ⟨hk.1, ⟨(gc_FN_fr c1 (fun k => ((g 49 k).resolve_left (by omega))) (fun k => ((g 50 k).resolve_left (by omega)))), (gc_FZ_fr c2 ((g 2 1).resolve_left (by omega)) (fun k => ((g 49 k).resolve_left (by omega))) (fun k => ((g 50 k).resolve_left (by omega)))), (by have h1 := ((g 86 2).resolve_left (by omega)); have h2 := ((g 86 4).resolve_left (by omega)); omega), (by have h1 := ((g 100 2).resolve_left (by omega)); have h2 := ((g 100 1).resolve_left (by omega)); have h3 := hk.2.1 8 1 (by decide) (by decide); omega), (gh_SN_fr c5 ((g 100 9).resolve_left (by omega))), (gh_FBT_fr c6 hk.2 (fun i t d j hi ht h1 h2 => (g (t + d) j).resolve_left (by have := (hT.1 i t hi ht).2.1; omega))), (gh_TRE_k c7 hk.2 (fun q j h1 h2 h3 => ((g q j).resolve_left (by omega)))), (gh_RKO_fr hs c8 hk.2 (fun q j h1 h2 => ((g q j).resolve_left (by omega))))⟩, hk.2, by omega, (fun k9 h9 => ((g 24 k9).resolve_left (by omega))), ((g 100 9).resolve_left (by omega))⟩⟩
set_option maxHeartbeats 4000000 in
set_option maxRecDepth 100000 in
theorem d_X12_number_1_p {ws0 : List Cond} {tb : String → gz_T} (hws : gc_Ws ws0) (htb : gc_tbs tb) (sh : gz_Sh) (ro : Nat → Nat) (I : gr_I) (J : gr_J) (A : gc_A) (hI : gc_Inv ro I) (a1 : Int) (a2 : Int) (β : Int → Int) (η : Int) (hb : gc_Base sh ro A) (ha1 : (-2147483648) ≤ a1 ∧ a1 ≤ 2147483647) (ha2 : 1 ≤ a2 ∧ a2 ≤ 1) (y0 : gs_TX β η (I 24)) (y1 : η = I 23 1) : ∃ r h', gz_Ev ws0 tb 5 (yX12_number, cX12_number, 6, (some .int)) [.inr (.inr (some 0)), .inl a1, .inl a2] sh (gc_h sh I J A) r sh h' 0 0 ∧ (∃ (I' : gr_I) (J' : gr_J), h' = gc_h sh I' J' A ∧ gc_Inv ro I' ∧ (∀ q j : Nat, ((q = 23 ∧ j = 1) ∨ (q = 23 ∧ j = 5) ∨ (q = 23 ∧ j = 6) ∨ (q = 23 ∧ j = 7) ∨ (q = 23 ∧ j = 8)) ∨ I' q j = I q j) ∧ (∀ q j : Nat, ((q = 23 ∧ j = 9)) ∨ J' q j = J q j) ∧ (∃ z : Int, r = some (.inl z) ∧ (-1) ≤ z ∧ z ≤ 399 ∧ (I' 23 1 = 0) ∧ (z = gs_nz (gs_on β η) (J 3) (I 2 1)))) := by
  have FI : ∀ q j : Nat, ((q = 23 ∧ j = 1) ∨ (q = 23 ∧ j = 5) ∨ (q = 23 ∧ j = 6) ∨ (q = 23 ∧ j = 7) ∨ (q = 23 ∧ j = 8)) ∨ I q j = I q j := fun _ _ => Or.inr rfl
  have FJ : ∀ q j : Nat, ((q = 23 ∧ j = 9)) ∨ J q j = J q j := fun _ _ => Or.inr rfl
  have A_0_0 : A 0 0 = some 1 := gc_bA hb rfl
  have A_0_1 : A 0 1 = some 23 := gc_bA hb rfl
  have A_1_0 : A 1 0 = some 2 := gc_bA hb rfl
  have B_0 : 0 < 1000000 := by decide
  have B_1 : 1 < 1000000 := by decide
  have B_2 : 2 < 1000000 := by decide
  have B_23 : 23 < 1000000 := by decide
  have R_23 : ro 23 = 3 := gc_bR hb (by decide) rfl
  have S_0 : sh[0]? = some (false, 12, 17) := gc_bS hb rfl
  have S_1 : sh[1]? = some (false, 8, 21) := gc_bS hb rfl
  have S_2 : sh[2]? = some (false, 4, 2) := gc_bS hb rfl
  have S_23 : sh[23]? = some (false, 9, 10) := gc_bS hb rfl
  have hD : gv_D (gc_E12 ws0 tb 4 (yX12_number, cX12_number, 6, (some .int)) kX12_number) := gq_ok oX12_number
  refine gc_ev12 (d := 4) (l := kX12_number) (Po := fun r h' => (∃ (I' : gr_I) (J' : gr_J), h' = gc_h sh I' J' A ∧ gc_Inv ro I' ∧ (∀ q j : Nat, ((q = 23 ∧ j = 1) ∨ (q = 23 ∧ j = 5) ∨ (q = 23 ∧ j = 6) ∨ (q = 23 ∧ j = 7) ∨ (q = 23 ∧ j = 8)) ∨ I' q j = I q j) ∧ (∀ q j : Nat, ((q = 23 ∧ j = 9)) ∨ J' q j = J q j) ∧ (∃ z : Int, r = some (.inl z) ∧ (-1) ≤ z ∧ z ≤ 399 ∧ (I' 23 1 = 0) ∧ (z = gs_nz (gs_on β η) (J 3) (I 2 1))))) htb rfl (Nat.le_of_ble_eq_true rfl) ?_
  have f1 := (show 0 ≤ I 23 1 ∧ I 23 1 ≤ 1000 from gc_in hI R_23 rfl rfl)
  have L77 : gv_X (gc_E12 ws0 tb 4 (yX12_number, cX12_number, 6, (some .int)) kX12_number) (gv_Q cX12_number (some .int) sh (fun r h' => (∃ (I' : gr_I) (J' : gr_J), h' = gc_h sh I' J' A ∧ gc_Inv ro I' ∧ (∀ q j : Nat, ((q = 23 ∧ j = 1) ∨ (q = 23 ∧ j = 5) ∨ (q = 23 ∧ j = 6) ∨ (q = 23 ∧ j = 7) ∨ (q = 23 ∧ j = 8)) ∨ I' q j = I q j) ∧ (∀ q j : Nat, ((q = 23 ∧ j = 9)) ∨ J' q j = J q j) ∧ (∃ z : Int, r = some (.inl z) ∧ (-1) ≤ z ∧ z ≤ 399 ∧ (I' 23 1 = 0) ∧ (z = gs_nz (gs_on β η) (J 3) (I 2 1)))))) (77, [(0, .inr (.inr (some 0))), (3, .inr (.inr (some 2)))], [], sh, gc_h sh I J A) := by
    have f3 := (show 0 ≤ I 23 1 ∧ I 23 1 ≤ 1000 from gc_in hI R_23 rfl rfl)
    have L111 : ∀ (I4 : gr_I) (J5 : gr_J) (s0_6 : Int), gc_Inv ro I4 → (∀ q j : Nat, ((q = 23 ∧ j = 1) ∨ (q = 23 ∧ j = 5) ∨ (q = 23 ∧ j = 6) ∨ (q = 23 ∧ j = 7) ∨ (q = 23 ∧ j = 8)) ∨ I4 q j = I q j) → (∀ q j : Nat, ((q = 23 ∧ j = 9)) ∨ J5 q j = J q j) → (((-1) ≤ s0_6 ∧ s0_6 ≤ 399) ∧ (I4 23 1 = 0)) → (s0_6 = gs_nz (gs_on β η) (J 3) (I 2 1)) → gv_X (gc_E12 ws0 tb 4 (yX12_number, cX12_number, 6, (some .int)) kX12_number) (gv_Q cX12_number (some .int) sh (fun r h' => (∃ (I' : gr_I) (J' : gr_J), h' = gc_h sh I' J' A ∧ gc_Inv ro I' ∧ (∀ q j : Nat, ((q = 23 ∧ j = 1) ∨ (q = 23 ∧ j = 5) ∨ (q = 23 ∧ j = 6) ∨ (q = 23 ∧ j = 7) ∨ (q = 23 ∧ j = 8)) ∨ I' q j = I q j) ∧ (∀ q j : Nat, ((q = 23 ∧ j = 9)) ∨ J' q j = J q j) ∧ (∃ z : Int, r = some (.inl z) ∧ (-1) ≤ z ∧ z ≤ 399 ∧ (I' 23 1 = 0) ∧ (z = gs_nz (gs_on β η) (J 3) (I 2 1)))))) (111, [], [.inl s0_6], sh, gc_h sh I4 J5 A) := by
      intro I4 J5 s0_6 hI4 FI4 FJ5 m_6 o_6
      clear f3
      obtain ⟨hs0_6, e0_6⟩ := m_6
      have f7 := (show 0 ≤ I4 23 1 ∧ I4 23 1 ≤ 1000 from gc_in hI4 R_23 rfl rfl)
      exact gv_iret hD rfl ⟨I4, J5, rfl, hI4, FI4, FJ5, ⟨_, rfl, hs0_6.1, hs0_6.2, e0_6, o_6⟩⟩
    refine gv_run 1 true hD (pc' := 78) (lv' := [(0, .inr (.inr (some 0))), (3, .inr (.inr (some 2)))]) (st' := [.inr (.inr (some 0))]) (h' := gc_h sh I J A) (C := (True ∧ True)) rfl ⟨trivial, trivial⟩ ?_
    refine gv_get hD rfl rfl S_0 ⟨by decide, B_0⟩ (gc_hA S_0 rfl A_0_1) ?_
    show gv_X _ _ (81, [(0, .inr (.inr (some 0))), (3, .inr (.inr (some 2)))], [.inr (.inr (some 23))], sh, gc_h sh I J A)
    obtain ⟨r8, h8, E8, P8⟩ := d_X9_onlyName_p (ws0 := ws0) (tb := tb) hws htb sh ro I J A hI 23 β η (gc_b23 hb) y0 y1
    obtain ⟨I9, J10, rfl, hI9, g8, k8, ⟨z8, rfl, V8_0, V8_1, V8_2, V8_3, V8_4, q8⟩⟩ := P8
    have FI9 := gc_frc (W := fun q j => (q = 23 ∧ j = 1) ∨ (q = 23 ∧ j = 5) ∨ (q = 23 ∧ j = 6) ∨ (q = 23 ∧ j = 7) ∨ (q = 23 ∧ j = 8)) (V := fun q j => (q = 23 ∧ j = 5) ∨ (q = 23 ∧ j = 6) ∨ (q = 23 ∧ j = 7) ∨ (q = 23 ∧ j = 8)) FI (fun q j h => (h.elim (fun h => (Or.inr (Or.inl h))) (fun h => (h.elim (fun h => (Or.inr (Or.inr (Or.inl h)))) (fun h => (h.elim (fun h => (Or.inr (Or.inr (Or.inr (Or.inl h))))) (fun h => (Or.inr (Or.inr (Or.inr (Or.inr h))))))))))) g8
    have FJ10 := gc_frc (W := fun q j => (q = 23 ∧ j = 9)) (V := fun q j => (q = 23 ∧ j = 9)) FJ (fun q j h => h) k8
    have t11 := (g8 23 1).resolve_left (fun h => h.elim (fun h => absurd h.2 (by decide)) (fun h => h.elim (fun h => absurd h.2 (by decide)) (fun h => h.elim (fun h => absurd h.2 (by decide)) (fun h => absurd h.2 (by decide)))))
    refine gv_callV hD rfl (As := []) (st := []) rfl B_23 S_23 rfl (gc_lV12 hws rfl) (Nat.le_of_ble_eq_true rfl) (gz_Ev_mono (d := 4) (by decide) E8) ?_
    show gv_X _ _ (84, [(0, .inr (.inr (some 0))), (3, .inr (.inr (some 2)))], [.inr (.inl z8)], sh, gc_h sh I9 J10 A)
    refine gv_run 2 true hD (pc' := 87) (lv' := [(4, .inr (.inl z8)), (0, .inr (.inr (some 0))), (3, .inr (.inr (some 2)))]) (st' := [.inr (.inr (some 0))]) (h' := gc_h sh I9 J10 A) (C := ((True ∧ True) ∧ True)) rfl ⟨⟨trivial, trivial⟩, trivial⟩ ?_
    refine gv_get hD rfl rfl S_0 ⟨by decide, B_0⟩ (gc_hA S_0 rfl A_0_1) ?_
    show gv_X _ _ (90, [(4, .inr (.inl z8)), (0, .inr (.inr (some 0))), (3, .inr (.inr (some 2)))], [.inr (.inr (some 23))], sh, gc_h sh I9 J10 A)
    refine gv_run 1 true hD (pc' := 91) (lv' := [(4, .inr (.inl z8)), (0, .inr (.inr (some 0))), (3, .inr (.inr (some 2)))]) (st' := [.inl 0, .inr (.inr (some 23))]) (h' := gc_h sh I9 J10 A) (C := (True ∧ True)) rfl ⟨trivial, trivial⟩ ?_
    refine gv_put hD rfl rfl S_23 ⟨by decide, B_23⟩ rfl trivial ?_
    refine gc_st (k := 1) hI9 S_23 rfl R_23 (lo := 0) (hi := 1000) rfl rfl (by omega) (by omega) (fun I12 hI12 q13 p13 => ?_)
    have FI12 := gc_frs (W := fun q j => (q = 23 ∧ j = 1) ∨ (q = 23 ∧ j = 5) ∨ (q = 23 ∧ j = 6) ∨ (q = 23 ∧ j = 7) ∨ (q = 23 ∧ j = 8)) FI9 (Or.inl ⟨rfl, rfl⟩) p13
    have f14 := (show 0 ≤ I12 23 1 ∧ I12 23 1 ≤ 1000 from gc_in hI12 R_23 rfl rfl)
    show gv_X _ _ (94, [(4, .inr (.inl z8)), (0, .inr (.inr (some 0))), (3, .inr (.inr (some 2)))], [], sh, gc_h sh I12 J10 A)
    have f15 := gw_cmp (z8) ((Int64.ofNat 0))
    refine gv_run 3 true hD (pc' := 98) (lv' := [(4, .inr (.inl z8)), (0, .inr (.inr (some 0))), (3, .inr (.inr (some 2)))]) (st' := [.inl ((lg_cmp (z8) ((Int64.ofNat 0))).toInt)]) (h' := gc_h sh I12 J10 A) (C := (((True ∧ True) ∧ True) ∧ True)) rfl ⟨⟨⟨trivial, trivial⟩, trivial⟩, trivial⟩ ?_
    refine gv_if_ne (t := 105) hD rfl rfl ⟨by omega, by omega⟩ (fun c16 => ?_) (fun c16 => ?_)
    · show gv_X _ _ (105, [(4, .inr (.inl z8)), (0, .inr (.inr (some 0))), (3, .inr (.inr (some 2)))], [], sh, gc_h sh I12 J10 A)
      refine gv_run 2 true hD (pc' := 108) (lv' := [(4, .inr (.inl z8)), (0, .inr (.inr (some 0))), (3, .inr (.inr (some 2)))]) (st' := [.inr (.inl z8), .inr (.inr (some 2))]) (h' := gc_h sh I12 J10 A) (C := ((True ∧ True) ∧ True)) rfl ⟨⟨trivial, trivial⟩, trivial⟩ ?_
      obtain ⟨r17, h17, E17, P17⟩ := d_X4_find (ws0 := ws0) (tb := tb) hws htb sh ro I12 J10 A hI12 2 32 9 z8 (gc_b2 hb)     
      obtain ⟨rfl, ⟨z17, rfl, q17⟩⟩ := P17
      refine gv_callV hD rfl (As := [.inr (.inl z8)]) (st := []) rfl B_2 S_2 rfl (gc_lV12 hws rfl) (Nat.le_of_ble_eq_true rfl) (gz_Ev_mono (d := 1) (by decide) E17) ?_
      show gv_X _ _ (111, [(4, .inr (.inl z8)), (0, .inr (.inr (some 0))), (3, .inr (.inr (some 2)))], [.inl z17], sh, gc_h sh I12 J10 A)
      refine gv_pick [] rfl ?_
      exact L111 I12 J10 z17 hI12 FI12 FJ10 (by omega) (gs_nz_c q17.2.2.2 q8.2 (gc_cmpn c16) (fun j => (FJ10 3 j).resolve_left (by omega)) ((FI12 2 1).resolve_left (by omega)))
    · show gv_X _ _ (101, [(4, .inr (.inl z8)), (0, .inr (.inr (some 0))), (3, .inr (.inr (some 2)))], [], sh, gc_h sh I12 J10 A)
      refine gv_run 2 true hD (pc' := 111) (lv' := [(4, .inr (.inl z8)), (0, .inr (.inr (some 0))), (3, .inr (.inr (some 2)))]) (st' := [.inl (-1)]) (h' := gc_h sh I12 J10 A) (C := ((True ∧ True) ∧ True)) rfl ⟨⟨trivial, trivial⟩, trivial⟩ ?_
      refine gv_pick [] rfl ?_
      exact L111 I12 J10 (-1) hI12 FI12 FJ10 (by omega) (gs_nz_z (q8.2.symm.trans (gc_cmp0 c16))).symm
  refine gv_run 1 true hD (pc' := 1) (lv' := [(0, .inr (.inr (some 0))), (1, .inl a1), (2, .inl a2)]) (st' := [.inl a2]) (h' := gc_h sh I J A) (C := (True ∧ True)) rfl ⟨trivial, trivial⟩ ?_
  refine gv_if_lt (t := 9) hD rfl rfl ⟨by omega, by omega⟩ (fun c18 => ?_) (fun c18 => ?_)
  · exfalso; omega
  · show gv_X _ _ (4, [(0, .inr (.inr (some 0))), (1, .inl a1), (2, .inl a2)], [], sh, gc_h sh I J A)
    refine gv_run 2 true hD (pc' := 6) (lv' := [(0, .inr (.inr (some 0))), (1, .inl a1), (2, .inl a2)]) (st' := [.inl 5, .inl a2]) (h' := gc_h sh I J A) (C := ((True ∧ True) ∧ True)) rfl ⟨⟨trivial, trivial⟩, trivial⟩ ?_
    refine gv_icmp_le (t := 19) hD rfl rfl ⟨⟨by omega, by omega⟩, ⟨by omega, by omega⟩⟩ (fun c19 => ?_) (fun c19 => ?_)
    · show gv_X _ _ (19, [(0, .inr (.inr (some 0))), (1, .inl a1), (2, .inl a2)], [], sh, gc_h sh I J A)
      refine gv_run 1 true hD (pc' := 20) (lv' := [(0, .inr (.inr (some 0))), (1, .inl a1), (2, .inl a2)]) (st' := [.inr (.inr (some 0))]) (h' := gc_h sh I J A) (C := (True ∧ True)) rfl ⟨trivial, trivial⟩ ?_
      refine gv_get hD rfl rfl S_0 ⟨by decide, B_0⟩ (gc_hA S_0 rfl A_0_0) ?_
      show gv_X _ _ (23, [(0, .inr (.inr (some 0))), (1, .inl a1), (2, .inl a2)], [.inr (.inr (some 1))], sh, gc_h sh I J A)
      refine gv_get hD rfl rfl S_1 ⟨by decide, B_1⟩ (gc_hA S_1 rfl A_1_0) ?_
      show gv_X _ _ (26, [(0, .inr (.inr (some 0))), (1, .inl a1), (2, .inl a2)], [.inr (.inr (some 2))], sh, gc_h sh I J A)
      refine gv_run 2 true hD (pc' := 28) (lv' := [(3, .inr (.inr (some 2))), (0, .inr (.inr (some 0))), (1, .inl a1), (2, .inl a2)]) (st' := [.inl a2]) (h' := gc_h sh I J A) (C := ((True ∧ True) ∧ True)) rfl ⟨⟨trivial, trivial⟩, trivial⟩ ?_
      refine gv_if_ne (t := 42) hD rfl rfl ⟨by omega, by omega⟩ (fun c20 => ?_) (fun c20 => ?_)
      · show gv_X _ _ (42, [(3, .inr (.inr (some 2))), (0, .inr (.inr (some 0))), (1, .inl a1), (2, .inl a2)], [], sh, gc_h sh I J A)
        refine gv_run 2 true hD (pc' := 44) (lv' := [(3, .inr (.inr (some 2))), (0, .inr (.inr (some 0))), (1, .inl a1), (2, .inl a2)]) (st' := [.inl 2, .inl a2]) (h' := gc_h sh I J A) (C := ((True ∧ True) ∧ True)) rfl ⟨⟨trivial, trivial⟩, trivial⟩ ?_
        refine gv_icmp_ne (t := 58) hD rfl rfl ⟨⟨by omega, by omega⟩, ⟨by omega, by omega⟩⟩ (fun c21 => ?_) (fun c21 => ?_)
        · show gv_X _ _ (58, [(3, .inr (.inr (some 2))), (0, .inr (.inr (some 0))), (1, .inl a1), (2, .inl a2)], [], sh, gc_h sh I J A)
          refine gv_run 2 true hD (pc' := 60) (lv' := [(3, .inr (.inr (some 2))), (0, .inr (.inr (some 0))), (1, .inl a1), (2, .inl a2)]) (st' := [.inl 2, .inl a2]) (h' := gc_h sh I J A) (C := ((True ∧ True) ∧ True)) rfl ⟨⟨trivial, trivial⟩, trivial⟩ ?_
          refine gv_icmp_le (t := 77) hD rfl rfl ⟨⟨by omega, by omega⟩, ⟨by omega, by omega⟩⟩ (fun c22 => ?_) (fun c22 => ?_)
          · show gv_X _ _ (77, [(3, .inr (.inr (some 2))), (0, .inr (.inr (some 0))), (1, .inl a1), (2, .inl a2)], [], sh, gc_h sh I J A)
            refine gv_pick [1, 0] rfl ?_
            exact L77 
          · exfalso; omega
        · exfalso; omega
      · exfalso; omega
    · exfalso; omega
set_option maxHeartbeats 4000000 in
theorem hh_number_1_z {ws0 : List Cond} {tb : String → gz_T} (hws : gc_Ws ws0) (htb : gc_tbs tb) {sh : gz_Sh} {ro : Nat → Nat} {I : gr_I} {J : gr_J} {A : gc_A} (hs : gh_HS sh ro I J A) (hc : gh_HC sh ro A I) (a1 : Int) (a2 : Int) (ra1 : (-2147483648) ≤ a1 ∧ a1 ≤ 2147483647) (ra2 : 1 ≤ a2 ∧ a2 ≤ 1) (β : Int → Int) (η : Int) (y0 : gs_TX β η (I 24)) (y1 : η = I 23 1) : ∃ (z : Int) (I' : gr_I) (J' : gr_J), gz_Ev ws0 tb 100 (yX12_number, cX12_number, 6, (some .int)) [.inr (.inr (some 0)), .inl a1, .inl a2] sh (gc_h sh I J A) (some (.inl z)) sh (gc_h sh I' J' A) 0 0 ∧ z = gs_nz (gs_on β η) (J 3) (I 2 1) ∧ gh_K sh ro A I J I' J' (0) := by
  have hb := hs.1
  have hI := hs.2.1
  have hok := hs.2.2.1
  have hT := hs.2.2.2.1
  have hU := hs.2.2.2.2.1
  have i8 : 0 ≤ I 8 1 ∧ I 8 1 ≤ 8 := gc_in hI (gc_bR hb (by decide) rfl) rfl rfl
  have h144 := gc_Base_len hb
  obtain ⟨c1, c2, c3, c4, c5, c6, c7, c8⟩ := id hc
  obtain ⟨r, h', E, I', J', rfl, hI', g, k, z, rfl, p0, p1, p2, p3⟩ := d_X12_number_1_p hws htb sh ro I J A hI a1 a2 β η hb ⟨by omega, by omega⟩ ⟨by omega, by omega⟩ y0 y1
  have ok' : gc_OK sh I' J' A := gh_OK_g hok (fun q j => (g q j).elim (fun h => by
      rcases h with ⟨rfl, rfl⟩ | ⟨rfl, rfl⟩ | ⟨rfl, rfl⟩ | ⟨rfl, rfl⟩ | ⟨rfl, rfl⟩
      · exact Or.inl (gh_ok0 (gc_bS hb (p := 23) rfl) rfl)
      · exact Or.inl (gh_ok0 (gc_bS hb (p := 23) rfl) rfl)
      · exact Or.inl (gh_ok0 (gc_bS hb (p := 23) rfl) rfl)
      · exact Or.inl (gh_ok0 (gc_bS hb (p := 23) rfl) rfl)
      · exact Or.inl (gh_ok0 (gc_bS hb (p := 23) rfl) rfl)
      ) Or.inr) (fun q j => (k q j).imp (fun h => by omega) id)
  have hk := gh_HS_n hs hI' ok' (fun q j => (g q j).imp (fun h => by omega) id) (fun q j => (k q j).imp (fun h => by omega) id)
  refine ⟨z, I', J', gz_Ev_mono (by decide) E, p3, ⟨hk.1, ⟨(gc_FN_fr c1 (fun k => ((g 49 k).resolve_left (by omega))) (fun k => ((g 50 k).resolve_left (by omega)))), (gc_FZ_fr c2 ((g 2 1).resolve_left (by omega)) (fun k => ((g 49 k).resolve_left (by omega))) (fun k => ((g 50 k).resolve_left (by omega)))), (by have h1 := ((g 86 2).resolve_left (by omega)); have h2 := ((g 86 4).resolve_left (by omega)); omega), (by have h1 := ((g 100 2).resolve_left (by omega)); have h2 := ((g 100 1).resolve_left (by omega)); have h3 := hk.2.1 8 1 (by decide) (by decide); omega), (gh_SN_fr c5 ((g 100 9).resolve_left (by omega))), (gh_FBT_fr c6 hk.2 (fun i t d j hi ht h1 h2 => (g (t + d) j).resolve_left (by have := (hT.1 i t hi ht).2.1; omega))), (gh_TRE_k c7 hk.2 (fun q j h1 h2 h3 => ((g q j).resolve_left (by omega)))), (gh_RKO_fr hs c8 hk.2 (fun q j h1 h2 => ((g q j).resolve_left (by omega))))⟩, hk.2, by omega, (fun k9 h9 => ((g 24 k9).resolve_left (by omega))), ((g 100 9).resolve_left (by omega))⟩⟩
set_option maxHeartbeats 4000000 in
set_option maxRecDepth 100000 in
theorem d_X12_number_2_p {ws0 : List Cond} {tb : String → gz_T} (hws : gc_Ws ws0) (htb : gc_tbs tb) (sh : gz_Sh) (ro : Nat → Nat) (I : gr_I) (J : gr_J) (A : gc_A) (hI : gc_Inv ro I) (a1 : Int) (a2 : Int) (β : Int → Int) (η : Int) (hb : gc_Base sh ro A) (ha1 : (-2147483648) ≤ a1 ∧ a1 ≤ 2147483647) (ha2 : 2 ≤ a2 ∧ a2 ≤ 2) (y0 : gs_TX β η (I 24)) (y1 : η = I 23 1) : ∃ r h', gz_Ev ws0 tb 5 (yX12_number, cX12_number, 6, (some .int)) [.inr (.inr (some 0)), .inl a1, .inl a2] sh (gc_h sh I J A) r sh h' 0 0 ∧ (∃ (I' : gr_I) (J' : gr_J), h' = gc_h sh I' J' A ∧ gc_Inv ro I' ∧ (∀ q j : Nat, ((q = 23 ∧ j = 1) ∨ (q = 23 ∧ j = 5) ∨ (q = 23 ∧ j = 6) ∨ (q = 23 ∧ j = 7) ∨ (q = 23 ∧ j = 8)) ∨ I' q j = I q j) ∧ (∀ q j : Nat, ((q = 23 ∧ j = 9)) ∨ J' q j = J q j) ∧ (∃ z : Int, r = some (.inl z) ∧ (-1) ≤ z ∧ z ≤ 399 ∧ (I' 23 1 = 0) ∧ (z = gs_nz (gs_on β η) (J 5) (I 4 1)))) := by
  have FI : ∀ q j : Nat, ((q = 23 ∧ j = 1) ∨ (q = 23 ∧ j = 5) ∨ (q = 23 ∧ j = 6) ∨ (q = 23 ∧ j = 7) ∨ (q = 23 ∧ j = 8)) ∨ I q j = I q j := fun _ _ => Or.inr rfl
  have FJ : ∀ q j : Nat, ((q = 23 ∧ j = 9)) ∨ J q j = J q j := fun _ _ => Or.inr rfl
  have A_0_0 : A 0 0 = some 1 := gc_bA hb rfl
  have A_0_1 : A 0 1 = some 23 := gc_bA hb rfl
  have A_1_0 : A 1 0 = some 2 := gc_bA hb rfl
  have A_1_1 : A 1 1 = some 4 := gc_bA hb rfl
  have B_0 : 0 < 1000000 := by decide
  have B_1 : 1 < 1000000 := by decide
  have B_23 : 23 < 1000000 := by decide
  have B_4 : 4 < 1000000 := by decide
  have R_23 : ro 23 = 3 := gc_bR hb (by decide) rfl
  have S_0 : sh[0]? = some (false, 12, 17) := gc_bS hb rfl
  have S_1 : sh[1]? = some (false, 8, 21) := gc_bS hb rfl
  have S_23 : sh[23]? = some (false, 9, 10) := gc_bS hb rfl
  have S_4 : sh[4]? = some (false, 4, 2) := gc_bS hb rfl
  have hD : gv_D (gc_E12 ws0 tb 4 (yX12_number, cX12_number, 6, (some .int)) kX12_number) := gq_ok oX12_number
  refine gc_ev12 (d := 4) (l := kX12_number) (Po := fun r h' => (∃ (I' : gr_I) (J' : gr_J), h' = gc_h sh I' J' A ∧ gc_Inv ro I' ∧ (∀ q j : Nat, ((q = 23 ∧ j = 1) ∨ (q = 23 ∧ j = 5) ∨ (q = 23 ∧ j = 6) ∨ (q = 23 ∧ j = 7) ∨ (q = 23 ∧ j = 8)) ∨ I' q j = I q j) ∧ (∀ q j : Nat, ((q = 23 ∧ j = 9)) ∨ J' q j = J q j) ∧ (∃ z : Int, r = some (.inl z) ∧ (-1) ≤ z ∧ z ≤ 399 ∧ (I' 23 1 = 0) ∧ (z = gs_nz (gs_on β η) (J 5) (I 4 1))))) htb rfl (Nat.le_of_ble_eq_true rfl) ?_
  have f1 := (show 0 ≤ I 23 1 ∧ I 23 1 ≤ 1000 from gc_in hI R_23 rfl rfl)
  have L77 : gv_X (gc_E12 ws0 tb 4 (yX12_number, cX12_number, 6, (some .int)) kX12_number) (gv_Q cX12_number (some .int) sh (fun r h' => (∃ (I' : gr_I) (J' : gr_J), h' = gc_h sh I' J' A ∧ gc_Inv ro I' ∧ (∀ q j : Nat, ((q = 23 ∧ j = 1) ∨ (q = 23 ∧ j = 5) ∨ (q = 23 ∧ j = 6) ∨ (q = 23 ∧ j = 7) ∨ (q = 23 ∧ j = 8)) ∨ I' q j = I q j) ∧ (∀ q j : Nat, ((q = 23 ∧ j = 9)) ∨ J' q j = J q j) ∧ (∃ z : Int, r = some (.inl z) ∧ (-1) ≤ z ∧ z ≤ 399 ∧ (I' 23 1 = 0) ∧ (z = gs_nz (gs_on β η) (J 5) (I 4 1)))))) (77, [(0, .inr (.inr (some 0))), (3, .inr (.inr (some 4)))], [], sh, gc_h sh I J A) := by
    have f3 := (show 0 ≤ I 23 1 ∧ I 23 1 ≤ 1000 from gc_in hI R_23 rfl rfl)
    have L111 : ∀ (I4 : gr_I) (J5 : gr_J) (s0_6 : Int), gc_Inv ro I4 → (∀ q j : Nat, ((q = 23 ∧ j = 1) ∨ (q = 23 ∧ j = 5) ∨ (q = 23 ∧ j = 6) ∨ (q = 23 ∧ j = 7) ∨ (q = 23 ∧ j = 8)) ∨ I4 q j = I q j) → (∀ q j : Nat, ((q = 23 ∧ j = 9)) ∨ J5 q j = J q j) → (((-1) ≤ s0_6 ∧ s0_6 ≤ 399) ∧ (I4 23 1 = 0)) → (s0_6 = gs_nz (gs_on β η) (J 5) (I 4 1)) → gv_X (gc_E12 ws0 tb 4 (yX12_number, cX12_number, 6, (some .int)) kX12_number) (gv_Q cX12_number (some .int) sh (fun r h' => (∃ (I' : gr_I) (J' : gr_J), h' = gc_h sh I' J' A ∧ gc_Inv ro I' ∧ (∀ q j : Nat, ((q = 23 ∧ j = 1) ∨ (q = 23 ∧ j = 5) ∨ (q = 23 ∧ j = 6) ∨ (q = 23 ∧ j = 7) ∨ (q = 23 ∧ j = 8)) ∨ I' q j = I q j) ∧ (∀ q j : Nat, ((q = 23 ∧ j = 9)) ∨ J' q j = J q j) ∧ (∃ z : Int, r = some (.inl z) ∧ (-1) ≤ z ∧ z ≤ 399 ∧ (I' 23 1 = 0) ∧ (z = gs_nz (gs_on β η) (J 5) (I 4 1)))))) (111, [], [.inl s0_6], sh, gc_h sh I4 J5 A) := by
      intro I4 J5 s0_6 hI4 FI4 FJ5 m_6 o_6
      clear f3
      obtain ⟨hs0_6, e0_6⟩ := m_6
      have f7 := (show 0 ≤ I4 23 1 ∧ I4 23 1 ≤ 1000 from gc_in hI4 R_23 rfl rfl)
      exact gv_iret hD rfl ⟨I4, J5, rfl, hI4, FI4, FJ5, ⟨_, rfl, hs0_6.1, hs0_6.2, e0_6, o_6⟩⟩
    refine gv_run 1 true hD (pc' := 78) (lv' := [(0, .inr (.inr (some 0))), (3, .inr (.inr (some 4)))]) (st' := [.inr (.inr (some 0))]) (h' := gc_h sh I J A) (C := (True ∧ True)) rfl ⟨trivial, trivial⟩ ?_
    refine gv_get hD rfl rfl S_0 ⟨by decide, B_0⟩ (gc_hA S_0 rfl A_0_1) ?_
    show gv_X _ _ (81, [(0, .inr (.inr (some 0))), (3, .inr (.inr (some 4)))], [.inr (.inr (some 23))], sh, gc_h sh I J A)
    obtain ⟨r8, h8, E8, P8⟩ := d_X9_onlyName_p (ws0 := ws0) (tb := tb) hws htb sh ro I J A hI 23 β η (gc_b23 hb) y0 y1
    obtain ⟨I9, J10, rfl, hI9, g8, k8, ⟨z8, rfl, V8_0, V8_1, V8_2, V8_3, V8_4, q8⟩⟩ := P8
    have FI9 := gc_frc (W := fun q j => (q = 23 ∧ j = 1) ∨ (q = 23 ∧ j = 5) ∨ (q = 23 ∧ j = 6) ∨ (q = 23 ∧ j = 7) ∨ (q = 23 ∧ j = 8)) (V := fun q j => (q = 23 ∧ j = 5) ∨ (q = 23 ∧ j = 6) ∨ (q = 23 ∧ j = 7) ∨ (q = 23 ∧ j = 8)) FI (fun q j h => (h.elim (fun h => (Or.inr (Or.inl h))) (fun h => (h.elim (fun h => (Or.inr (Or.inr (Or.inl h)))) (fun h => (h.elim (fun h => (Or.inr (Or.inr (Or.inr (Or.inl h))))) (fun h => (Or.inr (Or.inr (Or.inr (Or.inr h))))))))))) g8
    have FJ10 := gc_frc (W := fun q j => (q = 23 ∧ j = 9)) (V := fun q j => (q = 23 ∧ j = 9)) FJ (fun q j h => h) k8
    have t11 := (g8 23 1).resolve_left (fun h => h.elim (fun h => absurd h.2 (by decide)) (fun h => h.elim (fun h => absurd h.2 (by decide)) (fun h => h.elim (fun h => absurd h.2 (by decide)) (fun h => absurd h.2 (by decide)))))
    refine gv_callV hD rfl (As := []) (st := []) rfl B_23 S_23 rfl (gc_lV12 hws rfl) (Nat.le_of_ble_eq_true rfl) (gz_Ev_mono (d := 4) (by decide) E8) ?_
    show gv_X _ _ (84, [(0, .inr (.inr (some 0))), (3, .inr (.inr (some 4)))], [.inr (.inl z8)], sh, gc_h sh I9 J10 A)
    refine gv_run 2 true hD (pc' := 87) (lv' := [(4, .inr (.inl z8)), (0, .inr (.inr (some 0))), (3, .inr (.inr (some 4)))]) (st' := [.inr (.inr (some 0))]) (h' := gc_h sh I9 J10 A) (C := ((True ∧ True) ∧ True)) rfl ⟨⟨trivial, trivial⟩, trivial⟩ ?_
    refine gv_get hD rfl rfl S_0 ⟨by decide, B_0⟩ (gc_hA S_0 rfl A_0_1) ?_
    show gv_X _ _ (90, [(4, .inr (.inl z8)), (0, .inr (.inr (some 0))), (3, .inr (.inr (some 4)))], [.inr (.inr (some 23))], sh, gc_h sh I9 J10 A)
    refine gv_run 1 true hD (pc' := 91) (lv' := [(4, .inr (.inl z8)), (0, .inr (.inr (some 0))), (3, .inr (.inr (some 4)))]) (st' := [.inl 0, .inr (.inr (some 23))]) (h' := gc_h sh I9 J10 A) (C := (True ∧ True)) rfl ⟨trivial, trivial⟩ ?_
    refine gv_put hD rfl rfl S_23 ⟨by decide, B_23⟩ rfl trivial ?_
    refine gc_st (k := 1) hI9 S_23 rfl R_23 (lo := 0) (hi := 1000) rfl rfl (by omega) (by omega) (fun I12 hI12 q13 p13 => ?_)
    have FI12 := gc_frs (W := fun q j => (q = 23 ∧ j = 1) ∨ (q = 23 ∧ j = 5) ∨ (q = 23 ∧ j = 6) ∨ (q = 23 ∧ j = 7) ∨ (q = 23 ∧ j = 8)) FI9 (Or.inl ⟨rfl, rfl⟩) p13
    have f14 := (show 0 ≤ I12 23 1 ∧ I12 23 1 ≤ 1000 from gc_in hI12 R_23 rfl rfl)
    show gv_X _ _ (94, [(4, .inr (.inl z8)), (0, .inr (.inr (some 0))), (3, .inr (.inr (some 4)))], [], sh, gc_h sh I12 J10 A)
    have f15 := gw_cmp (z8) ((Int64.ofNat 0))
    refine gv_run 3 true hD (pc' := 98) (lv' := [(4, .inr (.inl z8)), (0, .inr (.inr (some 0))), (3, .inr (.inr (some 4)))]) (st' := [.inl ((lg_cmp (z8) ((Int64.ofNat 0))).toInt)]) (h' := gc_h sh I12 J10 A) (C := (((True ∧ True) ∧ True) ∧ True)) rfl ⟨⟨⟨trivial, trivial⟩, trivial⟩, trivial⟩ ?_
    refine gv_if_ne (t := 105) hD rfl rfl ⟨by omega, by omega⟩ (fun c16 => ?_) (fun c16 => ?_)
    · show gv_X _ _ (105, [(4, .inr (.inl z8)), (0, .inr (.inr (some 0))), (3, .inr (.inr (some 4)))], [], sh, gc_h sh I12 J10 A)
      refine gv_run 2 true hD (pc' := 108) (lv' := [(4, .inr (.inl z8)), (0, .inr (.inr (some 0))), (3, .inr (.inr (some 4)))]) (st' := [.inr (.inl z8), .inr (.inr (some 4))]) (h' := gc_h sh I12 J10 A) (C := ((True ∧ True) ∧ True)) rfl ⟨⟨trivial, trivial⟩, trivial⟩ ?_
      obtain ⟨r17, h17, E17, P17⟩ := d_X4_find (ws0 := ws0) (tb := tb) hws htb sh ro I12 J10 A hI12 4 96 11 z8 (gc_b4 hb)     
      obtain ⟨rfl, ⟨z17, rfl, q17⟩⟩ := P17
      refine gv_callV hD rfl (As := [.inr (.inl z8)]) (st := []) rfl B_4 S_4 rfl (gc_lV12 hws rfl) (Nat.le_of_ble_eq_true rfl) (gz_Ev_mono (d := 1) (by decide) E17) ?_
      show gv_X _ _ (111, [(4, .inr (.inl z8)), (0, .inr (.inr (some 0))), (3, .inr (.inr (some 4)))], [.inl z17], sh, gc_h sh I12 J10 A)
      refine gv_pick [] rfl ?_
      exact L111 I12 J10 z17 hI12 FI12 FJ10 (by omega) (gs_nz_c q17.2.2.2 q8.2 (gc_cmpn c16) (fun j => (FJ10 5 j).resolve_left (by omega)) ((FI12 4 1).resolve_left (by omega)))
    · show gv_X _ _ (101, [(4, .inr (.inl z8)), (0, .inr (.inr (some 0))), (3, .inr (.inr (some 4)))], [], sh, gc_h sh I12 J10 A)
      refine gv_run 2 true hD (pc' := 111) (lv' := [(4, .inr (.inl z8)), (0, .inr (.inr (some 0))), (3, .inr (.inr (some 4)))]) (st' := [.inl (-1)]) (h' := gc_h sh I12 J10 A) (C := ((True ∧ True) ∧ True)) rfl ⟨⟨trivial, trivial⟩, trivial⟩ ?_
      refine gv_pick [] rfl ?_
      exact L111 I12 J10 (-1) hI12 FI12 FJ10 (by omega) (gs_nz_z (q8.2.symm.trans (gc_cmp0 c16))).symm
  refine gv_run 1 true hD (pc' := 1) (lv' := [(0, .inr (.inr (some 0))), (1, .inl a1), (2, .inl a2)]) (st' := [.inl a2]) (h' := gc_h sh I J A) (C := (True ∧ True)) rfl ⟨trivial, trivial⟩ ?_
  refine gv_if_lt (t := 9) hD rfl rfl ⟨by omega, by omega⟩ (fun c18 => ?_) (fun c18 => ?_)
  · exfalso; omega
  · show gv_X _ _ (4, [(0, .inr (.inr (some 0))), (1, .inl a1), (2, .inl a2)], [], sh, gc_h sh I J A)
    refine gv_run 2 true hD (pc' := 6) (lv' := [(0, .inr (.inr (some 0))), (1, .inl a1), (2, .inl a2)]) (st' := [.inl 5, .inl a2]) (h' := gc_h sh I J A) (C := ((True ∧ True) ∧ True)) rfl ⟨⟨trivial, trivial⟩, trivial⟩ ?_
    refine gv_icmp_le (t := 19) hD rfl rfl ⟨⟨by omega, by omega⟩, ⟨by omega, by omega⟩⟩ (fun c19 => ?_) (fun c19 => ?_)
    · show gv_X _ _ (19, [(0, .inr (.inr (some 0))), (1, .inl a1), (2, .inl a2)], [], sh, gc_h sh I J A)
      refine gv_run 1 true hD (pc' := 20) (lv' := [(0, .inr (.inr (some 0))), (1, .inl a1), (2, .inl a2)]) (st' := [.inr (.inr (some 0))]) (h' := gc_h sh I J A) (C := (True ∧ True)) rfl ⟨trivial, trivial⟩ ?_
      refine gv_get hD rfl rfl S_0 ⟨by decide, B_0⟩ (gc_hA S_0 rfl A_0_0) ?_
      show gv_X _ _ (23, [(0, .inr (.inr (some 0))), (1, .inl a1), (2, .inl a2)], [.inr (.inr (some 1))], sh, gc_h sh I J A)
      refine gv_get hD rfl rfl S_1 ⟨by decide, B_1⟩ (gc_hA S_1 rfl A_1_0) ?_
      show gv_X _ _ (26, [(0, .inr (.inr (some 0))), (1, .inl a1), (2, .inl a2)], [.inr (.inr (some 2))], sh, gc_h sh I J A)
      refine gv_run 2 true hD (pc' := 28) (lv' := [(3, .inr (.inr (some 2))), (0, .inr (.inr (some 0))), (1, .inl a1), (2, .inl a2)]) (st' := [.inl a2]) (h' := gc_h sh I J A) (C := ((True ∧ True) ∧ True)) rfl ⟨⟨trivial, trivial⟩, trivial⟩ ?_
      refine gv_if_ne (t := 42) hD rfl rfl ⟨by omega, by omega⟩ (fun c20 => ?_) (fun c20 => ?_)
      · show gv_X _ _ (42, [(3, .inr (.inr (some 2))), (0, .inr (.inr (some 0))), (1, .inl a1), (2, .inl a2)], [], sh, gc_h sh I J A)
        refine gv_run 2 true hD (pc' := 44) (lv' := [(3, .inr (.inr (some 2))), (0, .inr (.inr (some 0))), (1, .inl a1), (2, .inl a2)]) (st' := [.inl 2, .inl a2]) (h' := gc_h sh I J A) (C := ((True ∧ True) ∧ True)) rfl ⟨⟨trivial, trivial⟩, trivial⟩ ?_
        refine gv_icmp_ne (t := 58) hD rfl rfl ⟨⟨by omega, by omega⟩, ⟨by omega, by omega⟩⟩ (fun c21 => ?_) (fun c21 => ?_)
        · exfalso; omega
        · show gv_X _ _ (47, [(3, .inr (.inr (some 2))), (0, .inr (.inr (some 0))), (1, .inl a1), (2, .inl a2)], [], sh, gc_h sh I J A)
          refine gv_run 1 true hD (pc' := 48) (lv' := [(3, .inr (.inr (some 2))), (0, .inr (.inr (some 0))), (1, .inl a1), (2, .inl a2)]) (st' := [.inr (.inr (some 0))]) (h' := gc_h sh I J A) (C := (True ∧ True)) rfl ⟨trivial, trivial⟩ ?_
          refine gv_get hD rfl rfl S_0 ⟨by decide, B_0⟩ (gc_hA S_0 rfl A_0_0) ?_
          show gv_X _ _ (51, [(3, .inr (.inr (some 2))), (0, .inr (.inr (some 0))), (1, .inl a1), (2, .inl a2)], [.inr (.inr (some 1))], sh, gc_h sh I J A)
          refine gv_get hD rfl rfl S_1 ⟨by decide, B_1⟩ (gc_hA S_1 rfl A_1_1) ?_
          show gv_X _ _ (54, [(3, .inr (.inr (some 2))), (0, .inr (.inr (some 0))), (1, .inl a1), (2, .inl a2)], [.inr (.inr (some 4))], sh, gc_h sh I J A)
          refine gv_run 2 true hD (pc' := 77) (lv' := [(3, .inr (.inr (some 4))), (0, .inr (.inr (some 0))), (1, .inl a1), (2, .inl a2)]) (st' := []) (h' := gc_h sh I J A) (C := ((True ∧ True) ∧ True)) rfl ⟨⟨trivial, trivial⟩, trivial⟩ ?_
          refine gv_pick [1, 0] rfl ?_
          exact L77 
      · exfalso; omega
    · exfalso; omega
set_option maxHeartbeats 4000000 in
theorem hh_number_2_z {ws0 : List Cond} {tb : String → gz_T} (hws : gc_Ws ws0) (htb : gc_tbs tb) {sh : gz_Sh} {ro : Nat → Nat} {I : gr_I} {J : gr_J} {A : gc_A} (hs : gh_HS sh ro I J A) (hc : gh_HC sh ro A I) (a1 : Int) (a2 : Int) (ra1 : (-2147483648) ≤ a1 ∧ a1 ≤ 2147483647) (ra2 : 2 ≤ a2 ∧ a2 ≤ 2) (β : Int → Int) (η : Int) (y0 : gs_TX β η (I 24)) (y1 : η = I 23 1) : ∃ (z : Int) (I' : gr_I) (J' : gr_J), gz_Ev ws0 tb 100 (yX12_number, cX12_number, 6, (some .int)) [.inr (.inr (some 0)), .inl a1, .inl a2] sh (gc_h sh I J A) (some (.inl z)) sh (gc_h sh I' J' A) 0 0 ∧ z = gs_nz (gs_on β η) (J 5) (I 4 1) ∧ gh_K sh ro A I J I' J' (0) := by
  have hb := hs.1
  have hI := hs.2.1
  have hok := hs.2.2.1
  have hT := hs.2.2.2.1
  have hU := hs.2.2.2.2.1
  have i8 : 0 ≤ I 8 1 ∧ I 8 1 ≤ 8 := gc_in hI (gc_bR hb (by decide) rfl) rfl rfl
  have h144 := gc_Base_len hb
  obtain ⟨c1, c2, c3, c4, c5, c6, c7, c8⟩ := id hc
  obtain ⟨r, h', E, I', J', rfl, hI', g, k, z, rfl, p0, p1, p2, p3⟩ := d_X12_number_2_p hws htb sh ro I J A hI a1 a2 β η hb ⟨by omega, by omega⟩ ⟨by omega, by omega⟩ y0 y1
  have ok' : gc_OK sh I' J' A := gh_OK_g hok (fun q j => (g q j).elim (fun h => by
      rcases h with ⟨rfl, rfl⟩ | ⟨rfl, rfl⟩ | ⟨rfl, rfl⟩ | ⟨rfl, rfl⟩ | ⟨rfl, rfl⟩
      · exact Or.inl (gh_ok0 (gc_bS hb (p := 23) rfl) rfl)
      · exact Or.inl (gh_ok0 (gc_bS hb (p := 23) rfl) rfl)
      · exact Or.inl (gh_ok0 (gc_bS hb (p := 23) rfl) rfl)
      · exact Or.inl (gh_ok0 (gc_bS hb (p := 23) rfl) rfl)
      · exact Or.inl (gh_ok0 (gc_bS hb (p := 23) rfl) rfl)
      ) Or.inr) (fun q j => (k q j).imp (fun h => by omega) id)
  have hk := gh_HS_n hs hI' ok' (fun q j => (g q j).imp (fun h => by omega) id) (fun q j => (k q j).imp (fun h => by omega) id)
  refine ⟨z, I', J', gz_Ev_mono (by decide) E, p3, ⟨hk.1, ⟨(gc_FN_fr c1 (fun k => ((g 49 k).resolve_left (by omega))) (fun k => ((g 50 k).resolve_left (by omega)))), (gc_FZ_fr c2 ((g 2 1).resolve_left (by omega)) (fun k => ((g 49 k).resolve_left (by omega))) (fun k => ((g 50 k).resolve_left (by omega)))), (by have h1 := ((g 86 2).resolve_left (by omega)); have h2 := ((g 86 4).resolve_left (by omega)); omega), (by have h1 := ((g 100 2).resolve_left (by omega)); have h2 := ((g 100 1).resolve_left (by omega)); have h3 := hk.2.1 8 1 (by decide) (by decide); omega), (gh_SN_fr c5 ((g 100 9).resolve_left (by omega))), (gh_FBT_fr c6 hk.2 (fun i t d j hi ht h1 h2 => (g (t + d) j).resolve_left (by have := (hT.1 i t hi ht).2.1; omega))), (gh_TRE_k c7 hk.2 (fun q j h1 h2 h3 => ((g q j).resolve_left (by omega)))), (gh_RKO_fr hs c8 hk.2 (fun q j h1 h2 => ((g q j).resolve_left (by omega))))⟩, hk.2, by omega, (fun k9 h9 => ((g 24 k9).resolve_left (by omega))), ((g 100 9).resolve_left (by omega))⟩⟩
set_option maxHeartbeats 4000000 in
set_option maxRecDepth 100000 in
theorem d_X12_number_3_p {ws0 : List Cond} {tb : String → gz_T} (hws : gc_Ws ws0) (htb : gc_tbs tb) (sh : gz_Sh) (ro : Nat → Nat) (I : gr_I) (J : gr_J) (A : gc_A) (hI : gc_Inv ro I) (t : Nat) (a1 : Int) (a2 : Int) (β : Int → Int) (η : Int) (hb : gc_Base sh ro A) (h_t : gc_isTongue sh ro A t) (G_t : 144 ≤ t) (ha1 : 0 ≤ a1 ∧ a1 ≤ 7) (ha2 : 3 ≤ a2 ∧ a2 ≤ 3) (x0 : 0 ≤ a1 ∧ a1 < I 8 1) (x1 : A 10 (Int.toNat a1) = some t) (y0 : gs_TX β η (I 24)) (y1 : η = I 23 1) : ∃ r h', gz_Ev ws0 tb 5 (yX12_number, cX12_number, 6, (some .int)) [.inr (.inr (some 0)), .inl a1, .inl a2] sh (gc_h sh I J A) r sh h' 0 0 ∧ (∃ (I' : gr_I) (J' : gr_J), h' = gc_h sh I' J' A ∧ gc_Inv ro I' ∧ (∀ q j : Nat, ((q = 23 ∧ j = 1) ∨ (q = 23 ∧ j = 5) ∨ (q = 23 ∧ j = 6) ∨ (q = 23 ∧ j = 7) ∨ (q = 23 ∧ j = 8)) ∨ I' q j = I q j) ∧ (∀ q j : Nat, ((q = 23 ∧ j = 9)) ∨ J' q j = J q j) ∧ (∃ z : Int, r = some (.inl z) ∧ (-1) ≤ z ∧ z ≤ 399 ∧ (I' 23 1 = 0) ∧ (z = gs_nz (gs_on β η) (J (t + 2)) (I (t + 1) 1)))) := by
  have FI : ∀ q j : Nat, ((q = 23 ∧ j = 1) ∨ (q = 23 ∧ j = 5) ∨ (q = 23 ∧ j = 6) ∨ (q = 23 ∧ j = 7) ∨ (q = 23 ∧ j = 8)) ∨ I q j = I q j := fun _ _ => Or.inr rfl
  have FJ : ∀ q j : Nat, ((q = 23 ∧ j = 9)) ∨ J q j = J q j := fun _ _ => Or.inr rfl
  have A_0_0 : A 0 0 = some 1 := gc_bA hb rfl
  have A_0_1 : A 0 1 = some 23 := gc_bA hb rfl
  have A_1_0 : A 1 0 = some 2 := gc_bA hb rfl
  have B_0 : 0 < 1000000 := by decide
  have B_1 : 1 < 1000000 := by decide
  have B_23 : 23 < 1000000 := by decide
  have R_23 : ro 23 = 3 := gc_bR hb (by decide) rfl
  have S_0 : sh[0]? = some (false, 12, 17) := gc_bS hb rfl
  have S_1 : sh[1]? = some (false, 8, 21) := gc_bS hb rfl
  have S_23 : sh[23]? = some (false, 9, 10) := gc_bS hb rfl
  obtain ⟨S_t, R_t, B_t, A_t_0, h_t_1, A_t_1, h_t_3, A_t_2, S_t_5, R_t_5, B_t_5, A_t_3, S_t_6, R_t_6, B_t_6, A_t_4, h_t_7, A_t_5, S_t_9, R_t_9, B_t_9, A_t_7, S_t_10, R_t_10, B_t_10, A_t_8, h_t_11, A_t_9, S_t_13, R_t_13, B_t_13, A_t_10, S_t_14, R_t_14, B_t_14, A_t_12, S_t_15, R_t_15, B_t_15, A_t_14, S_t_16, R_t_16, B_t_16, A_t_15, h_t_17⟩ := id h_t
  obtain ⟨S_t_1, R_t_1, B_t_1, A_t_1_0, S_t_1_1, R_t_1_1, B_t_1_1, Q0_t_1, Q1_t_1, Q2_t_1⟩ := id h_t_1
  obtain ⟨S_t_3, R_t_3, B_t_3, A_t_3_0, S_t_3_1, R_t_3_1, B_t_3_1, Q0_t_3, Q1_t_3, Q2_t_3⟩ := id h_t_3
  obtain ⟨S_t_7, R_t_7, B_t_7, A_t_7_0, S_t_7_1, R_t_7_1, B_t_7_1, Q0_t_7, Q1_t_7, Q2_t_7⟩ := id h_t_7
  obtain ⟨S_t_11, R_t_11, B_t_11, A_t_11_0, S_t_11_1, R_t_11_1, B_t_11_1, Q0_t_11, Q1_t_11, Q2_t_11⟩ := id h_t_11
  obtain ⟨S_t_17, R_t_17, B_t_17, A_t_17_0, S_20, R_20, B_20, A_t_17_1, S_t_17_1, R_t_17_1, B_t_17_1, A_t_17_2, S_t_17_2, R_t_17_2, B_t_17_2, A_t_17_3, S_t_17_3, R_t_17_3, B_t_17_3, A_t_17_4, S_t_17_4, R_t_17_4, B_t_17_4, A_t_17_5, S_t_17_5, R_t_17_5, B_t_17_5, S_t_17_6, R_t_17_6, B_t_17_6, S_t_17_7, R_t_17_7, B_t_17_7⟩ := id h_t_17
  have hD : gv_D (gc_E12 ws0 tb 4 (yX12_number, cX12_number, 6, (some .int)) kX12_number) := gq_ok oX12_number
  refine gc_ev12 (d := 4) (l := kX12_number) (Po := fun r h' => (∃ (I' : gr_I) (J' : gr_J), h' = gc_h sh I' J' A ∧ gc_Inv ro I' ∧ (∀ q j : Nat, ((q = 23 ∧ j = 1) ∨ (q = 23 ∧ j = 5) ∨ (q = 23 ∧ j = 6) ∨ (q = 23 ∧ j = 7) ∨ (q = 23 ∧ j = 8)) ∨ I' q j = I q j) ∧ (∀ q j : Nat, ((q = 23 ∧ j = 9)) ∨ J' q j = J q j) ∧ (∃ z : Int, r = some (.inl z) ∧ (-1) ≤ z ∧ z ≤ 399 ∧ (I' 23 1 = 0) ∧ (z = gs_nz (gs_on β η) (J (t + 2)) (I (t + 1) 1))))) htb rfl (Nat.le_of_ble_eq_true rfl) ?_
  have f1 := (show 0 ≤ I 23 1 ∧ I 23 1 ≤ 1000 from gc_in hI R_23 rfl rfl)
  have L77 : gv_X (gc_E12 ws0 tb 4 (yX12_number, cX12_number, 6, (some .int)) kX12_number) (gv_Q cX12_number (some .int) sh (fun r h' => (∃ (I' : gr_I) (J' : gr_J), h' = gc_h sh I' J' A ∧ gc_Inv ro I' ∧ (∀ q j : Nat, ((q = 23 ∧ j = 1) ∨ (q = 23 ∧ j = 5) ∨ (q = 23 ∧ j = 6) ∨ (q = 23 ∧ j = 7) ∨ (q = 23 ∧ j = 8)) ∨ I' q j = I q j) ∧ (∀ q j : Nat, ((q = 23 ∧ j = 9)) ∨ J' q j = J q j) ∧ (∃ z : Int, r = some (.inl z) ∧ (-1) ≤ z ∧ z ≤ 399 ∧ (I' 23 1 = 0) ∧ (z = gs_nz (gs_on β η) (J (t + 2)) (I (t + 1) 1)))))) (77, [(0, .inr (.inr (some 0))), (3, .inr (.inr (some (t + 1))))], [], sh, gc_h sh I J A) := by
    have f3 := (show 0 ≤ I 23 1 ∧ I 23 1 ≤ 1000 from gc_in hI R_23 rfl rfl)
    have L111 : ∀ (I4 : gr_I) (J5 : gr_J) (s0_6 : Int), gc_Inv ro I4 → (∀ q j : Nat, ((q = 23 ∧ j = 1) ∨ (q = 23 ∧ j = 5) ∨ (q = 23 ∧ j = 6) ∨ (q = 23 ∧ j = 7) ∨ (q = 23 ∧ j = 8)) ∨ I4 q j = I q j) → (∀ q j : Nat, ((q = 23 ∧ j = 9)) ∨ J5 q j = J q j) → (((-1) ≤ s0_6 ∧ s0_6 ≤ 399) ∧ (I4 23 1 = 0)) → (s0_6 = gs_nz (gs_on β η) (J (t + 2)) (I (t + 1) 1)) → gv_X (gc_E12 ws0 tb 4 (yX12_number, cX12_number, 6, (some .int)) kX12_number) (gv_Q cX12_number (some .int) sh (fun r h' => (∃ (I' : gr_I) (J' : gr_J), h' = gc_h sh I' J' A ∧ gc_Inv ro I' ∧ (∀ q j : Nat, ((q = 23 ∧ j = 1) ∨ (q = 23 ∧ j = 5) ∨ (q = 23 ∧ j = 6) ∨ (q = 23 ∧ j = 7) ∨ (q = 23 ∧ j = 8)) ∨ I' q j = I q j) ∧ (∀ q j : Nat, ((q = 23 ∧ j = 9)) ∨ J' q j = J q j) ∧ (∃ z : Int, r = some (.inl z) ∧ (-1) ≤ z ∧ z ≤ 399 ∧ (I' 23 1 = 0) ∧ (z = gs_nz (gs_on β η) (J (t + 2)) (I (t + 1) 1)))))) (111, [], [.inl s0_6], sh, gc_h sh I4 J5 A) := by
      intro I4 J5 s0_6 hI4 FI4 FJ5 m_6 o_6
      clear f3
      obtain ⟨hs0_6, e0_6⟩ := m_6
      have f7 := (show 0 ≤ I4 23 1 ∧ I4 23 1 ≤ 1000 from gc_in hI4 R_23 rfl rfl)
      exact gv_iret hD rfl ⟨I4, J5, rfl, hI4, FI4, FJ5, ⟨_, rfl, hs0_6.1, hs0_6.2, e0_6, o_6⟩⟩
    refine gv_run 1 true hD (pc' := 78) (lv' := [(0, .inr (.inr (some 0))), (3, .inr (.inr (some (t + 1))))]) (st' := [.inr (.inr (some 0))]) (h' := gc_h sh I J A) (C := (True ∧ True)) rfl ⟨trivial, trivial⟩ ?_
    refine gv_get hD rfl rfl S_0 ⟨by decide, B_0⟩ (gc_hA S_0 rfl A_0_1) ?_
    show gv_X _ _ (81, [(0, .inr (.inr (some 0))), (3, .inr (.inr (some (t + 1))))], [.inr (.inr (some 23))], sh, gc_h sh I J A)
    obtain ⟨r8, h8, E8, P8⟩ := d_X9_onlyName_p (ws0 := ws0) (tb := tb) hws htb sh ro I J A hI 23 β η (gc_b23 hb) y0 y1
    obtain ⟨I9, J10, rfl, hI9, g8, k8, ⟨z8, rfl, V8_0, V8_1, V8_2, V8_3, V8_4, q8⟩⟩ := P8
    have FI9 := gc_frc (W := fun q j => (q = 23 ∧ j = 1) ∨ (q = 23 ∧ j = 5) ∨ (q = 23 ∧ j = 6) ∨ (q = 23 ∧ j = 7) ∨ (q = 23 ∧ j = 8)) (V := fun q j => (q = 23 ∧ j = 5) ∨ (q = 23 ∧ j = 6) ∨ (q = 23 ∧ j = 7) ∨ (q = 23 ∧ j = 8)) FI (fun q j h => (h.elim (fun h => (Or.inr (Or.inl h))) (fun h => (h.elim (fun h => (Or.inr (Or.inr (Or.inl h)))) (fun h => (h.elim (fun h => (Or.inr (Or.inr (Or.inr (Or.inl h))))) (fun h => (Or.inr (Or.inr (Or.inr (Or.inr h))))))))))) g8
    have FJ10 := gc_frc (W := fun q j => (q = 23 ∧ j = 9)) (V := fun q j => (q = 23 ∧ j = 9)) FJ (fun q j h => h) k8
    have t11 := (g8 23 1).resolve_left (fun h => h.elim (fun h => absurd h.2 (by decide)) (fun h => h.elim (fun h => absurd h.2 (by decide)) (fun h => h.elim (fun h => absurd h.2 (by decide)) (fun h => absurd h.2 (by decide)))))
    refine gv_callV hD rfl (As := []) (st := []) rfl B_23 S_23 rfl (gc_lV12 hws rfl) (Nat.le_of_ble_eq_true rfl) (gz_Ev_mono (d := 4) (by decide) E8) ?_
    show gv_X _ _ (84, [(0, .inr (.inr (some 0))), (3, .inr (.inr (some (t + 1))))], [.inr (.inl z8)], sh, gc_h sh I9 J10 A)
    refine gv_run 2 true hD (pc' := 87) (lv' := [(4, .inr (.inl z8)), (0, .inr (.inr (some 0))), (3, .inr (.inr (some (t + 1))))]) (st' := [.inr (.inr (some 0))]) (h' := gc_h sh I9 J10 A) (C := ((True ∧ True) ∧ True)) rfl ⟨⟨trivial, trivial⟩, trivial⟩ ?_
    refine gv_get hD rfl rfl S_0 ⟨by decide, B_0⟩ (gc_hA S_0 rfl A_0_1) ?_
    show gv_X _ _ (90, [(4, .inr (.inl z8)), (0, .inr (.inr (some 0))), (3, .inr (.inr (some (t + 1))))], [.inr (.inr (some 23))], sh, gc_h sh I9 J10 A)
    refine gv_run 1 true hD (pc' := 91) (lv' := [(4, .inr (.inl z8)), (0, .inr (.inr (some 0))), (3, .inr (.inr (some (t + 1))))]) (st' := [.inl 0, .inr (.inr (some 23))]) (h' := gc_h sh I9 J10 A) (C := (True ∧ True)) rfl ⟨trivial, trivial⟩ ?_
    refine gv_put hD rfl rfl S_23 ⟨by decide, B_23⟩ rfl trivial ?_
    refine gc_st (k := 1) hI9 S_23 rfl R_23 (lo := 0) (hi := 1000) rfl rfl (by omega) (by omega) (fun I12 hI12 q13 p13 => ?_)
    have FI12 := gc_frs (W := fun q j => (q = 23 ∧ j = 1) ∨ (q = 23 ∧ j = 5) ∨ (q = 23 ∧ j = 6) ∨ (q = 23 ∧ j = 7) ∨ (q = 23 ∧ j = 8)) FI9 (Or.inl ⟨rfl, rfl⟩) p13
    have f14 := (show 0 ≤ I12 23 1 ∧ I12 23 1 ≤ 1000 from gc_in hI12 R_23 rfl rfl)
    show gv_X _ _ (94, [(4, .inr (.inl z8)), (0, .inr (.inr (some 0))), (3, .inr (.inr (some (t + 1))))], [], sh, gc_h sh I12 J10 A)
    have f15 := gw_cmp (z8) ((Int64.ofNat 0))
    refine gv_run 3 true hD (pc' := 98) (lv' := [(4, .inr (.inl z8)), (0, .inr (.inr (some 0))), (3, .inr (.inr (some (t + 1))))]) (st' := [.inl ((lg_cmp (z8) ((Int64.ofNat 0))).toInt)]) (h' := gc_h sh I12 J10 A) (C := (((True ∧ True) ∧ True) ∧ True)) rfl ⟨⟨⟨trivial, trivial⟩, trivial⟩, trivial⟩ ?_
    refine gv_if_ne (t := 105) hD rfl rfl ⟨by omega, by omega⟩ (fun c16 => ?_) (fun c16 => ?_)
    · show gv_X _ _ (105, [(4, .inr (.inl z8)), (0, .inr (.inr (some 0))), (3, .inr (.inr (some (t + 1))))], [], sh, gc_h sh I12 J10 A)
      refine gv_run 2 true hD (pc' := 108) (lv' := [(4, .inr (.inl z8)), (0, .inr (.inr (some 0))), (3, .inr (.inr (some (t + 1))))]) (st' := [.inr (.inl z8), .inr (.inr (some (t + 1)))]) (h' := gc_h sh I12 J10 A) (C := ((True ∧ True) ∧ True)) rfl ⟨⟨trivial, trivial⟩, trivial⟩ ?_
      obtain ⟨r17, h17, E17, P17⟩ := d_X4_find (ws0 := ws0) (tb := tb) hws htb sh ro I12 J10 A hI12 (t + 1) 8 6 z8 h_t_1     
      obtain ⟨rfl, ⟨z17, rfl, q17⟩⟩ := P17
      refine gv_callV hD rfl (As := [.inr (.inl z8)]) (st := []) rfl B_t_1 S_t_1 rfl (gc_lV12 hws rfl) (Nat.le_of_ble_eq_true rfl) (gz_Ev_mono (d := 1) (by decide) E17) ?_
      show gv_X _ _ (111, [(4, .inr (.inl z8)), (0, .inr (.inr (some 0))), (3, .inr (.inr (some (t + 1))))], [.inl z17], sh, gc_h sh I12 J10 A)
      refine gv_pick [] rfl ?_
      exact L111 I12 J10 z17 hI12 FI12 FJ10 (by omega) (gs_nz_c q17.2.2.2 q8.2 (gc_cmpn c16) (fun j => (FJ10 (t + 2) j).resolve_left (by omega)) ((FI12 (t + 1) 1).resolve_left (by omega)))
    · show gv_X _ _ (101, [(4, .inr (.inl z8)), (0, .inr (.inr (some 0))), (3, .inr (.inr (some (t + 1))))], [], sh, gc_h sh I12 J10 A)
      refine gv_run 2 true hD (pc' := 111) (lv' := [(4, .inr (.inl z8)), (0, .inr (.inr (some 0))), (3, .inr (.inr (some (t + 1))))]) (st' := [.inl (-1)]) (h' := gc_h sh I12 J10 A) (C := ((True ∧ True) ∧ True)) rfl ⟨⟨trivial, trivial⟩, trivial⟩ ?_
      refine gv_pick [] rfl ?_
      exact L111 I12 J10 (-1) hI12 FI12 FJ10 (by omega) (gs_nz_z (q8.2.symm.trans (gc_cmp0 c16))).symm
  refine gv_run 1 true hD (pc' := 1) (lv' := [(0, .inr (.inr (some 0))), (1, .inl a1), (2, .inl a2)]) (st' := [.inl a2]) (h' := gc_h sh I J A) (C := (True ∧ True)) rfl ⟨trivial, trivial⟩ ?_
  refine gv_if_lt (t := 9) hD rfl rfl ⟨by omega, by omega⟩ (fun c18 => ?_) (fun c18 => ?_)
  · exfalso; omega
  · show gv_X _ _ (4, [(0, .inr (.inr (some 0))), (1, .inl a1), (2, .inl a2)], [], sh, gc_h sh I J A)
    refine gv_run 2 true hD (pc' := 6) (lv' := [(0, .inr (.inr (some 0))), (1, .inl a1), (2, .inl a2)]) (st' := [.inl 5, .inl a2]) (h' := gc_h sh I J A) (C := ((True ∧ True) ∧ True)) rfl ⟨⟨trivial, trivial⟩, trivial⟩ ?_
    refine gv_icmp_le (t := 19) hD rfl rfl ⟨⟨by omega, by omega⟩, ⟨by omega, by omega⟩⟩ (fun c19 => ?_) (fun c19 => ?_)
    · show gv_X _ _ (19, [(0, .inr (.inr (some 0))), (1, .inl a1), (2, .inl a2)], [], sh, gc_h sh I J A)
      refine gv_run 1 true hD (pc' := 20) (lv' := [(0, .inr (.inr (some 0))), (1, .inl a1), (2, .inl a2)]) (st' := [.inr (.inr (some 0))]) (h' := gc_h sh I J A) (C := (True ∧ True)) rfl ⟨trivial, trivial⟩ ?_
      refine gv_get hD rfl rfl S_0 ⟨by decide, B_0⟩ (gc_hA S_0 rfl A_0_0) ?_
      show gv_X _ _ (23, [(0, .inr (.inr (some 0))), (1, .inl a1), (2, .inl a2)], [.inr (.inr (some 1))], sh, gc_h sh I J A)
      refine gv_get hD rfl rfl S_1 ⟨by decide, B_1⟩ (gc_hA S_1 rfl A_1_0) ?_
      show gv_X _ _ (26, [(0, .inr (.inr (some 0))), (1, .inl a1), (2, .inl a2)], [.inr (.inr (some 2))], sh, gc_h sh I J A)
      refine gv_run 2 true hD (pc' := 28) (lv' := [(3, .inr (.inr (some 2))), (0, .inr (.inr (some 0))), (1, .inl a1), (2, .inl a2)]) (st' := [.inl a2]) (h' := gc_h sh I J A) (C := ((True ∧ True) ∧ True)) rfl ⟨⟨trivial, trivial⟩, trivial⟩ ?_
      refine gv_if_ne (t := 42) hD rfl rfl ⟨by omega, by omega⟩ (fun c20 => ?_) (fun c20 => ?_)
      · show gv_X _ _ (42, [(3, .inr (.inr (some 2))), (0, .inr (.inr (some 0))), (1, .inl a1), (2, .inl a2)], [], sh, gc_h sh I J A)
        refine gv_run 2 true hD (pc' := 44) (lv' := [(3, .inr (.inr (some 2))), (0, .inr (.inr (some 0))), (1, .inl a1), (2, .inl a2)]) (st' := [.inl 2, .inl a2]) (h' := gc_h sh I J A) (C := ((True ∧ True) ∧ True)) rfl ⟨⟨trivial, trivial⟩, trivial⟩ ?_
        refine gv_icmp_ne (t := 58) hD rfl rfl ⟨⟨by omega, by omega⟩, ⟨by omega, by omega⟩⟩ (fun c21 => ?_) (fun c21 => ?_)
        · show gv_X _ _ (58, [(3, .inr (.inr (some 2))), (0, .inr (.inr (some 0))), (1, .inl a1), (2, .inl a2)], [], sh, gc_h sh I J A)
          refine gv_run 2 true hD (pc' := 60) (lv' := [(3, .inr (.inr (some 2))), (0, .inr (.inr (some 0))), (1, .inl a1), (2, .inl a2)]) (st' := [.inl 2, .inl a2]) (h' := gc_h sh I J A) (C := ((True ∧ True) ∧ True)) rfl ⟨⟨trivial, trivial⟩, trivial⟩ ?_
          refine gv_icmp_le (t := 77) hD rfl rfl ⟨⟨by omega, by omega⟩, ⟨by omega, by omega⟩⟩ (fun c22 => ?_) (fun c22 => ?_)
          · exfalso; omega
          · show gv_X _ _ (63, [(3, .inr (.inr (some 2))), (0, .inr (.inr (some 0))), (1, .inl a1), (2, .inl a2)], [], sh, gc_h sh I J A)
            refine gv_run 2 true hD (pc' := 65) (lv' := [(3, .inr (.inr (some 2))), (0, .inr (.inr (some 0))), (1, .inl a1), (2, .inl a2)]) (st' := [.inl a1, .inr (.inr (some 0))]) (h' := gc_h sh I J A) (C := ((True ∧ True) ∧ True)) rfl ⟨⟨trivial, trivial⟩, trivial⟩ ?_
            refine gv_callV hD rfl (As := [.inl a1]) (st := []) rfl B_0 S_0 rfl (gc_lV12 hws rfl) (Nat.le_of_ble_eq_true rfl) (gz_Ev_mono (d := 1) (by decide) (d_X12_tongueAt hws htb (J := J) hI hb (by omega) (by omega) x1)) ?_
            show gv_X _ _ (68, [(3, .inr (.inr (some 2))), (0, .inr (.inr (some 0))), (1, .inl a1), (2, .inl a2)], [.inr (.inr (some t))], sh, gc_h sh I J A)
            refine gv_run 3 true hD (pc' := 73) (lv' := [(4, .inr (.inr (some t))), (3, .inr (.inr (some 2))), (0, .inr (.inr (some 0))), (1, .inl a1), (2, .inl a2)]) (st' := [.inl a2, .inr (.inr (some t))]) (h' := gc_h sh I J A) (C := (((True ∧ True) ∧ True) ∧ True)) rfl ⟨⟨⟨trivial, trivial⟩, trivial⟩, trivial⟩ ?_
            refine gv_callV hD rfl (As := [.inl a2]) (st := []) rfl B_t S_t rfl (gc_lV12 hws rfl) (Nat.le_of_ble_eq_true rfl) (gz_Ev_mono (d := 1) (by decide) (d_X11_namesOf_3q htb (J := J) h_t (a2 := a2) (by omega))) ?_
            show gv_X _ _ (76, [(4, .inr (.inr (some t))), (3, .inr (.inr (some 2))), (0, .inr (.inr (some 0))), (1, .inl a1), (2, .inl a2)], [.inr (.inr (some (t + 1)))], sh, gc_h sh I J A)
            refine gv_run 1 true hD (pc' := 77) (lv' := [(3, .inr (.inr (some (t + 1)))), (4, .inr (.inr (some t))), (0, .inr (.inr (some 0))), (1, .inl a1), (2, .inl a2)]) (st' := []) (h' := gc_h sh I J A) (C := (True ∧ True)) rfl ⟨trivial, trivial⟩ ?_
            refine gv_pick [2, 0] rfl ?_
            exact L77 
        · exfalso; omega
      · exfalso; omega
    · exfalso; omega
set_option maxHeartbeats 4000000 in
theorem hh_number_3_z {ws0 : List Cond} {tb : String → gz_T} (hws : gc_Ws ws0) (htb : gc_tbs tb) {sh : gz_Sh} {ro : Nat → Nat} {I : gr_I} {J : gr_J} {A : gc_A} (hs : gh_HS sh ro I J A) (hc : gh_HC sh ro A I) (a1 : Int) (a2 : Int) (h1 : 0 ≤ a1 ∧ a1 < I 8 1) (ra2 : 3 ≤ a2 ∧ a2 ≤ 3) (β : Int → Int) (η : Int) (y0 : gs_TX β η (I 24)) (y1 : η = I 23 1) : ∃ (t : Nat) (z : Int) (I' : gr_I) (J' : gr_J), A 10 (Int.toNat a1) = some t ∧ gz_Ev ws0 tb 100 (yX12_number, cX12_number, 6, (some .int)) [.inr (.inr (some 0)), .inl a1, .inl a2] sh (gc_h sh I J A) (some (.inl z)) sh (gc_h sh I' J' A) 0 0 ∧ z = gs_nz (gs_on β η) (J (t + 2)) (I (t + 1) 1) ∧ gh_K sh ro A I J I' J' (0) := by
  have hb := hs.1
  have hI := hs.2.1
  have hok := hs.2.2.1
  have hT := hs.2.2.2.1
  have hU := hs.2.2.2.2.1
  have i8 : 0 ≤ I 8 1 ∧ I 8 1 ≤ 8 := gc_in hI (gc_bR hb (by decide) rfl) rfl rfl
  have h144 := gc_Base_len hb
  obtain ⟨c1, c2, c3, c4, c5, c6, c7, c8⟩ := id hc
  obtain ⟨t, ht, tL, tv, tl, tw⟩ := hU (Int.toNat a1) (by omega)
  have Tt := hT.1 (Int.toNat a1) t (by omega) ht
  have Gt := Tt.2.1
  have FB := c6 (Int.toNat a1) t (by omega) ht
  obtain ⟨r, h', E, I', J', rfl, hI', g, k, z, rfl, p0, p1, p2, p3⟩ := d_X12_number_3_p hws htb sh ro I J A hI t a1 a2 β η hb Tt.1 Tt.2.1 ⟨by omega, by omega⟩ ⟨by omega, by omega⟩ ⟨by omega, by omega⟩ ht y0 y1
  have ok' : gc_OK sh I' J' A := gh_OK_g hok (fun q j => (g q j).elim (fun h => by
      rcases h with ⟨rfl, rfl⟩ | ⟨rfl, rfl⟩ | ⟨rfl, rfl⟩ | ⟨rfl, rfl⟩ | ⟨rfl, rfl⟩
      · exact Or.inl (gh_ok0 (gc_bS hb (p := 23) rfl) rfl)
      · exact Or.inl (gh_ok0 (gc_bS hb (p := 23) rfl) rfl)
      · exact Or.inl (gh_ok0 (gc_bS hb (p := 23) rfl) rfl)
      · exact Or.inl (gh_ok0 (gc_bS hb (p := 23) rfl) rfl)
      · exact Or.inl (gh_ok0 (gc_bS hb (p := 23) rfl) rfl)
      ) Or.inr) (fun q j => (k q j).imp (fun h => by omega) id)
  have hk := gh_HS_n hs hI' ok' (fun q j => (g q j).imp (fun h => by omega) id) (fun q j => (k q j).imp (fun h => by omega) id)
  refine ⟨t, z, I', J', ht, gz_Ev_mono (by decide) E, p3, ⟨hk.1, ⟨(gc_FN_fr c1 (fun k => ((g 49 k).resolve_left (by omega))) (fun k => ((g 50 k).resolve_left (by omega)))), (gc_FZ_fr c2 ((g 2 1).resolve_left (by omega)) (fun k => ((g 49 k).resolve_left (by omega))) (fun k => ((g 50 k).resolve_left (by omega)))), (by have h1 := ((g 86 2).resolve_left (by omega)); have h2 := ((g 86 4).resolve_left (by omega)); omega), (by have h1 := ((g 100 2).resolve_left (by omega)); have h2 := ((g 100 1).resolve_left (by omega)); have h3 := hk.2.1 8 1 (by decide) (by decide); omega), (gh_SN_fr c5 ((g 100 9).resolve_left (by omega))), (gh_FBT_fr c6 hk.2 (fun i t d j hi ht h1 h2 => (g (t + d) j).resolve_left (by have := (hT.1 i t hi ht).2.1; omega))), (gh_TRE_k c7 hk.2 (fun q j h1 h2 h3 => ((g q j).resolve_left (by omega)))), (gh_RKO_fr hs c8 hk.2 (fun q j h1 h2 => ((g q j).resolve_left (by omega))))⟩, hk.2, by omega, (fun k9 h9 => ((g 24 k9).resolve_left (by omega))), ((g 100 9).resolve_left (by omega))⟩⟩
set_option maxHeartbeats 4000000 in
set_option maxRecDepth 100000 in
theorem d_X12_number_4_p {ws0 : List Cond} {tb : String → gz_T} (hws : gc_Ws ws0) (htb : gc_tbs tb) (sh : gz_Sh) (ro : Nat → Nat) (I : gr_I) (J : gr_J) (A : gc_A) (hI : gc_Inv ro I) (t : Nat) (a1 : Int) (a2 : Int) (β : Int → Int) (η : Int) (hb : gc_Base sh ro A) (h_t : gc_isTongue sh ro A t) (G_t : 144 ≤ t) (ha1 : 0 ≤ a1 ∧ a1 ≤ 7) (ha2 : 4 ≤ a2 ∧ a2 ≤ 4) (x0 : 0 ≤ a1 ∧ a1 < I 8 1) (x1 : A 10 (Int.toNat a1) = some t) (y0 : gs_TX β η (I 24)) (y1 : η = I 23 1) : ∃ r h', gz_Ev ws0 tb 5 (yX12_number, cX12_number, 6, (some .int)) [.inr (.inr (some 0)), .inl a1, .inl a2] sh (gc_h sh I J A) r sh h' 0 0 ∧ (∃ (I' : gr_I) (J' : gr_J), h' = gc_h sh I' J' A ∧ gc_Inv ro I' ∧ (∀ q j : Nat, ((q = 23 ∧ j = 1) ∨ (q = 23 ∧ j = 5) ∨ (q = 23 ∧ j = 6) ∨ (q = 23 ∧ j = 7) ∨ (q = 23 ∧ j = 8)) ∨ I' q j = I q j) ∧ (∀ q j : Nat, ((q = 23 ∧ j = 9)) ∨ J' q j = J q j) ∧ (∃ z : Int, r = some (.inl z) ∧ (-1) ≤ z ∧ z ≤ 399 ∧ (I' 23 1 = 0) ∧ (z = gs_nz (gs_on β η) (J (t + 4)) (I (t + 3) 1)))) := by
  have FI : ∀ q j : Nat, ((q = 23 ∧ j = 1) ∨ (q = 23 ∧ j = 5) ∨ (q = 23 ∧ j = 6) ∨ (q = 23 ∧ j = 7) ∨ (q = 23 ∧ j = 8)) ∨ I q j = I q j := fun _ _ => Or.inr rfl
  have FJ : ∀ q j : Nat, ((q = 23 ∧ j = 9)) ∨ J q j = J q j := fun _ _ => Or.inr rfl
  have A_0_0 : A 0 0 = some 1 := gc_bA hb rfl
  have A_0_1 : A 0 1 = some 23 := gc_bA hb rfl
  have A_1_0 : A 1 0 = some 2 := gc_bA hb rfl
  have B_0 : 0 < 1000000 := by decide
  have B_1 : 1 < 1000000 := by decide
  have B_23 : 23 < 1000000 := by decide
  have R_23 : ro 23 = 3 := gc_bR hb (by decide) rfl
  have S_0 : sh[0]? = some (false, 12, 17) := gc_bS hb rfl
  have S_1 : sh[1]? = some (false, 8, 21) := gc_bS hb rfl
  have S_23 : sh[23]? = some (false, 9, 10) := gc_bS hb rfl
  obtain ⟨S_t, R_t, B_t, A_t_0, h_t_1, A_t_1, h_t_3, A_t_2, S_t_5, R_t_5, B_t_5, A_t_3, S_t_6, R_t_6, B_t_6, A_t_4, h_t_7, A_t_5, S_t_9, R_t_9, B_t_9, A_t_7, S_t_10, R_t_10, B_t_10, A_t_8, h_t_11, A_t_9, S_t_13, R_t_13, B_t_13, A_t_10, S_t_14, R_t_14, B_t_14, A_t_12, S_t_15, R_t_15, B_t_15, A_t_14, S_t_16, R_t_16, B_t_16, A_t_15, h_t_17⟩ := id h_t
  obtain ⟨S_t_1, R_t_1, B_t_1, A_t_1_0, S_t_1_1, R_t_1_1, B_t_1_1, Q0_t_1, Q1_t_1, Q2_t_1⟩ := id h_t_1
  obtain ⟨S_t_3, R_t_3, B_t_3, A_t_3_0, S_t_3_1, R_t_3_1, B_t_3_1, Q0_t_3, Q1_t_3, Q2_t_3⟩ := id h_t_3
  obtain ⟨S_t_7, R_t_7, B_t_7, A_t_7_0, S_t_7_1, R_t_7_1, B_t_7_1, Q0_t_7, Q1_t_7, Q2_t_7⟩ := id h_t_7
  obtain ⟨S_t_11, R_t_11, B_t_11, A_t_11_0, S_t_11_1, R_t_11_1, B_t_11_1, Q0_t_11, Q1_t_11, Q2_t_11⟩ := id h_t_11
  obtain ⟨S_t_17, R_t_17, B_t_17, A_t_17_0, S_20, R_20, B_20, A_t_17_1, S_t_17_1, R_t_17_1, B_t_17_1, A_t_17_2, S_t_17_2, R_t_17_2, B_t_17_2, A_t_17_3, S_t_17_3, R_t_17_3, B_t_17_3, A_t_17_4, S_t_17_4, R_t_17_4, B_t_17_4, A_t_17_5, S_t_17_5, R_t_17_5, B_t_17_5, S_t_17_6, R_t_17_6, B_t_17_6, S_t_17_7, R_t_17_7, B_t_17_7⟩ := id h_t_17
  have hD : gv_D (gc_E12 ws0 tb 4 (yX12_number, cX12_number, 6, (some .int)) kX12_number) := gq_ok oX12_number
  refine gc_ev12 (d := 4) (l := kX12_number) (Po := fun r h' => (∃ (I' : gr_I) (J' : gr_J), h' = gc_h sh I' J' A ∧ gc_Inv ro I' ∧ (∀ q j : Nat, ((q = 23 ∧ j = 1) ∨ (q = 23 ∧ j = 5) ∨ (q = 23 ∧ j = 6) ∨ (q = 23 ∧ j = 7) ∨ (q = 23 ∧ j = 8)) ∨ I' q j = I q j) ∧ (∀ q j : Nat, ((q = 23 ∧ j = 9)) ∨ J' q j = J q j) ∧ (∃ z : Int, r = some (.inl z) ∧ (-1) ≤ z ∧ z ≤ 399 ∧ (I' 23 1 = 0) ∧ (z = gs_nz (gs_on β η) (J (t + 4)) (I (t + 3) 1))))) htb rfl (Nat.le_of_ble_eq_true rfl) ?_
  have f1 := (show 0 ≤ I 23 1 ∧ I 23 1 ≤ 1000 from gc_in hI R_23 rfl rfl)
  have L77 : gv_X (gc_E12 ws0 tb 4 (yX12_number, cX12_number, 6, (some .int)) kX12_number) (gv_Q cX12_number (some .int) sh (fun r h' => (∃ (I' : gr_I) (J' : gr_J), h' = gc_h sh I' J' A ∧ gc_Inv ro I' ∧ (∀ q j : Nat, ((q = 23 ∧ j = 1) ∨ (q = 23 ∧ j = 5) ∨ (q = 23 ∧ j = 6) ∨ (q = 23 ∧ j = 7) ∨ (q = 23 ∧ j = 8)) ∨ I' q j = I q j) ∧ (∀ q j : Nat, ((q = 23 ∧ j = 9)) ∨ J' q j = J q j) ∧ (∃ z : Int, r = some (.inl z) ∧ (-1) ≤ z ∧ z ≤ 399 ∧ (I' 23 1 = 0) ∧ (z = gs_nz (gs_on β η) (J (t + 4)) (I (t + 3) 1)))))) (77, [(0, .inr (.inr (some 0))), (3, .inr (.inr (some (t + 3))))], [], sh, gc_h sh I J A) := by
    have f3 := (show 0 ≤ I 23 1 ∧ I 23 1 ≤ 1000 from gc_in hI R_23 rfl rfl)
    have L111 : ∀ (I4 : gr_I) (J5 : gr_J) (s0_6 : Int), gc_Inv ro I4 → (∀ q j : Nat, ((q = 23 ∧ j = 1) ∨ (q = 23 ∧ j = 5) ∨ (q = 23 ∧ j = 6) ∨ (q = 23 ∧ j = 7) ∨ (q = 23 ∧ j = 8)) ∨ I4 q j = I q j) → (∀ q j : Nat, ((q = 23 ∧ j = 9)) ∨ J5 q j = J q j) → (((-1) ≤ s0_6 ∧ s0_6 ≤ 399) ∧ (I4 23 1 = 0)) → (s0_6 = gs_nz (gs_on β η) (J (t + 4)) (I (t + 3) 1)) → gv_X (gc_E12 ws0 tb 4 (yX12_number, cX12_number, 6, (some .int)) kX12_number) (gv_Q cX12_number (some .int) sh (fun r h' => (∃ (I' : gr_I) (J' : gr_J), h' = gc_h sh I' J' A ∧ gc_Inv ro I' ∧ (∀ q j : Nat, ((q = 23 ∧ j = 1) ∨ (q = 23 ∧ j = 5) ∨ (q = 23 ∧ j = 6) ∨ (q = 23 ∧ j = 7) ∨ (q = 23 ∧ j = 8)) ∨ I' q j = I q j) ∧ (∀ q j : Nat, ((q = 23 ∧ j = 9)) ∨ J' q j = J q j) ∧ (∃ z : Int, r = some (.inl z) ∧ (-1) ≤ z ∧ z ≤ 399 ∧ (I' 23 1 = 0) ∧ (z = gs_nz (gs_on β η) (J (t + 4)) (I (t + 3) 1)))))) (111, [], [.inl s0_6], sh, gc_h sh I4 J5 A) := by
      intro I4 J5 s0_6 hI4 FI4 FJ5 m_6 o_6
      clear f3
      obtain ⟨hs0_6, e0_6⟩ := m_6
      have f7 := (show 0 ≤ I4 23 1 ∧ I4 23 1 ≤ 1000 from gc_in hI4 R_23 rfl rfl)
      exact gv_iret hD rfl ⟨I4, J5, rfl, hI4, FI4, FJ5, ⟨_, rfl, hs0_6.1, hs0_6.2, e0_6, o_6⟩⟩
    refine gv_run 1 true hD (pc' := 78) (lv' := [(0, .inr (.inr (some 0))), (3, .inr (.inr (some (t + 3))))]) (st' := [.inr (.inr (some 0))]) (h' := gc_h sh I J A) (C := (True ∧ True)) rfl ⟨trivial, trivial⟩ ?_
    refine gv_get hD rfl rfl S_0 ⟨by decide, B_0⟩ (gc_hA S_0 rfl A_0_1) ?_
    show gv_X _ _ (81, [(0, .inr (.inr (some 0))), (3, .inr (.inr (some (t + 3))))], [.inr (.inr (some 23))], sh, gc_h sh I J A)
    obtain ⟨r8, h8, E8, P8⟩ := d_X9_onlyName_p (ws0 := ws0) (tb := tb) hws htb sh ro I J A hI 23 β η (gc_b23 hb) y0 y1
    obtain ⟨I9, J10, rfl, hI9, g8, k8, ⟨z8, rfl, V8_0, V8_1, V8_2, V8_3, V8_4, q8⟩⟩ := P8
    have FI9 := gc_frc (W := fun q j => (q = 23 ∧ j = 1) ∨ (q = 23 ∧ j = 5) ∨ (q = 23 ∧ j = 6) ∨ (q = 23 ∧ j = 7) ∨ (q = 23 ∧ j = 8)) (V := fun q j => (q = 23 ∧ j = 5) ∨ (q = 23 ∧ j = 6) ∨ (q = 23 ∧ j = 7) ∨ (q = 23 ∧ j = 8)) FI (fun q j h => (h.elim (fun h => (Or.inr (Or.inl h))) (fun h => (h.elim (fun h => (Or.inr (Or.inr (Or.inl h)))) (fun h => (h.elim (fun h => (Or.inr (Or.inr (Or.inr (Or.inl h))))) (fun h => (Or.inr (Or.inr (Or.inr (Or.inr h))))))))))) g8
    have FJ10 := gc_frc (W := fun q j => (q = 23 ∧ j = 9)) (V := fun q j => (q = 23 ∧ j = 9)) FJ (fun q j h => h) k8
    have t11 := (g8 23 1).resolve_left (fun h => h.elim (fun h => absurd h.2 (by decide)) (fun h => h.elim (fun h => absurd h.2 (by decide)) (fun h => h.elim (fun h => absurd h.2 (by decide)) (fun h => absurd h.2 (by decide)))))
    refine gv_callV hD rfl (As := []) (st := []) rfl B_23 S_23 rfl (gc_lV12 hws rfl) (Nat.le_of_ble_eq_true rfl) (gz_Ev_mono (d := 4) (by decide) E8) ?_
    show gv_X _ _ (84, [(0, .inr (.inr (some 0))), (3, .inr (.inr (some (t + 3))))], [.inr (.inl z8)], sh, gc_h sh I9 J10 A)
    refine gv_run 2 true hD (pc' := 87) (lv' := [(4, .inr (.inl z8)), (0, .inr (.inr (some 0))), (3, .inr (.inr (some (t + 3))))]) (st' := [.inr (.inr (some 0))]) (h' := gc_h sh I9 J10 A) (C := ((True ∧ True) ∧ True)) rfl ⟨⟨trivial, trivial⟩, trivial⟩ ?_
    refine gv_get hD rfl rfl S_0 ⟨by decide, B_0⟩ (gc_hA S_0 rfl A_0_1) ?_
    show gv_X _ _ (90, [(4, .inr (.inl z8)), (0, .inr (.inr (some 0))), (3, .inr (.inr (some (t + 3))))], [.inr (.inr (some 23))], sh, gc_h sh I9 J10 A)
    refine gv_run 1 true hD (pc' := 91) (lv' := [(4, .inr (.inl z8)), (0, .inr (.inr (some 0))), (3, .inr (.inr (some (t + 3))))]) (st' := [.inl 0, .inr (.inr (some 23))]) (h' := gc_h sh I9 J10 A) (C := (True ∧ True)) rfl ⟨trivial, trivial⟩ ?_
    refine gv_put hD rfl rfl S_23 ⟨by decide, B_23⟩ rfl trivial ?_
    refine gc_st (k := 1) hI9 S_23 rfl R_23 (lo := 0) (hi := 1000) rfl rfl (by omega) (by omega) (fun I12 hI12 q13 p13 => ?_)
    have FI12 := gc_frs (W := fun q j => (q = 23 ∧ j = 1) ∨ (q = 23 ∧ j = 5) ∨ (q = 23 ∧ j = 6) ∨ (q = 23 ∧ j = 7) ∨ (q = 23 ∧ j = 8)) FI9 (Or.inl ⟨rfl, rfl⟩) p13
    have f14 := (show 0 ≤ I12 23 1 ∧ I12 23 1 ≤ 1000 from gc_in hI12 R_23 rfl rfl)
    show gv_X _ _ (94, [(4, .inr (.inl z8)), (0, .inr (.inr (some 0))), (3, .inr (.inr (some (t + 3))))], [], sh, gc_h sh I12 J10 A)
    have f15 := gw_cmp (z8) ((Int64.ofNat 0))
    refine gv_run 3 true hD (pc' := 98) (lv' := [(4, .inr (.inl z8)), (0, .inr (.inr (some 0))), (3, .inr (.inr (some (t + 3))))]) (st' := [.inl ((lg_cmp (z8) ((Int64.ofNat 0))).toInt)]) (h' := gc_h sh I12 J10 A) (C := (((True ∧ True) ∧ True) ∧ True)) rfl ⟨⟨⟨trivial, trivial⟩, trivial⟩, trivial⟩ ?_
    refine gv_if_ne (t := 105) hD rfl rfl ⟨by omega, by omega⟩ (fun c16 => ?_) (fun c16 => ?_)
    · show gv_X _ _ (105, [(4, .inr (.inl z8)), (0, .inr (.inr (some 0))), (3, .inr (.inr (some (t + 3))))], [], sh, gc_h sh I12 J10 A)
      refine gv_run 2 true hD (pc' := 108) (lv' := [(4, .inr (.inl z8)), (0, .inr (.inr (some 0))), (3, .inr (.inr (some (t + 3))))]) (st' := [.inr (.inl z8), .inr (.inr (some (t + 3)))]) (h' := gc_h sh I12 J10 A) (C := ((True ∧ True) ∧ True)) rfl ⟨⟨trivial, trivial⟩, trivial⟩ ?_
      obtain ⟨r17, h17, E17, P17⟩ := d_X4_find (ws0 := ws0) (tb := tb) hws htb sh ro I12 J10 A hI12 (t + 3) 48 10 z8 h_t_3     
      obtain ⟨rfl, ⟨z17, rfl, q17⟩⟩ := P17
      refine gv_callV hD rfl (As := [.inr (.inl z8)]) (st := []) rfl B_t_3 S_t_3 rfl (gc_lV12 hws rfl) (Nat.le_of_ble_eq_true rfl) (gz_Ev_mono (d := 1) (by decide) E17) ?_
      show gv_X _ _ (111, [(4, .inr (.inl z8)), (0, .inr (.inr (some 0))), (3, .inr (.inr (some (t + 3))))], [.inl z17], sh, gc_h sh I12 J10 A)
      refine gv_pick [] rfl ?_
      exact L111 I12 J10 z17 hI12 FI12 FJ10 (by omega) (gs_nz_c q17.2.2.2 q8.2 (gc_cmpn c16) (fun j => (FJ10 (t + 4) j).resolve_left (by omega)) ((FI12 (t + 3) 1).resolve_left (by omega)))
    · show gv_X _ _ (101, [(4, .inr (.inl z8)), (0, .inr (.inr (some 0))), (3, .inr (.inr (some (t + 3))))], [], sh, gc_h sh I12 J10 A)
      refine gv_run 2 true hD (pc' := 111) (lv' := [(4, .inr (.inl z8)), (0, .inr (.inr (some 0))), (3, .inr (.inr (some (t + 3))))]) (st' := [.inl (-1)]) (h' := gc_h sh I12 J10 A) (C := ((True ∧ True) ∧ True)) rfl ⟨⟨trivial, trivial⟩, trivial⟩ ?_
      refine gv_pick [] rfl ?_
      exact L111 I12 J10 (-1) hI12 FI12 FJ10 (by omega) (gs_nz_z (q8.2.symm.trans (gc_cmp0 c16))).symm
  refine gv_run 1 true hD (pc' := 1) (lv' := [(0, .inr (.inr (some 0))), (1, .inl a1), (2, .inl a2)]) (st' := [.inl a2]) (h' := gc_h sh I J A) (C := (True ∧ True)) rfl ⟨trivial, trivial⟩ ?_
  refine gv_if_lt (t := 9) hD rfl rfl ⟨by omega, by omega⟩ (fun c18 => ?_) (fun c18 => ?_)
  · exfalso; omega
  · show gv_X _ _ (4, [(0, .inr (.inr (some 0))), (1, .inl a1), (2, .inl a2)], [], sh, gc_h sh I J A)
    refine gv_run 2 true hD (pc' := 6) (lv' := [(0, .inr (.inr (some 0))), (1, .inl a1), (2, .inl a2)]) (st' := [.inl 5, .inl a2]) (h' := gc_h sh I J A) (C := ((True ∧ True) ∧ True)) rfl ⟨⟨trivial, trivial⟩, trivial⟩ ?_
    refine gv_icmp_le (t := 19) hD rfl rfl ⟨⟨by omega, by omega⟩, ⟨by omega, by omega⟩⟩ (fun c19 => ?_) (fun c19 => ?_)
    · show gv_X _ _ (19, [(0, .inr (.inr (some 0))), (1, .inl a1), (2, .inl a2)], [], sh, gc_h sh I J A)
      refine gv_run 1 true hD (pc' := 20) (lv' := [(0, .inr (.inr (some 0))), (1, .inl a1), (2, .inl a2)]) (st' := [.inr (.inr (some 0))]) (h' := gc_h sh I J A) (C := (True ∧ True)) rfl ⟨trivial, trivial⟩ ?_
      refine gv_get hD rfl rfl S_0 ⟨by decide, B_0⟩ (gc_hA S_0 rfl A_0_0) ?_
      show gv_X _ _ (23, [(0, .inr (.inr (some 0))), (1, .inl a1), (2, .inl a2)], [.inr (.inr (some 1))], sh, gc_h sh I J A)
      refine gv_get hD rfl rfl S_1 ⟨by decide, B_1⟩ (gc_hA S_1 rfl A_1_0) ?_
      show gv_X _ _ (26, [(0, .inr (.inr (some 0))), (1, .inl a1), (2, .inl a2)], [.inr (.inr (some 2))], sh, gc_h sh I J A)
      refine gv_run 2 true hD (pc' := 28) (lv' := [(3, .inr (.inr (some 2))), (0, .inr (.inr (some 0))), (1, .inl a1), (2, .inl a2)]) (st' := [.inl a2]) (h' := gc_h sh I J A) (C := ((True ∧ True) ∧ True)) rfl ⟨⟨trivial, trivial⟩, trivial⟩ ?_
      refine gv_if_ne (t := 42) hD rfl rfl ⟨by omega, by omega⟩ (fun c20 => ?_) (fun c20 => ?_)
      · show gv_X _ _ (42, [(3, .inr (.inr (some 2))), (0, .inr (.inr (some 0))), (1, .inl a1), (2, .inl a2)], [], sh, gc_h sh I J A)
        refine gv_run 2 true hD (pc' := 44) (lv' := [(3, .inr (.inr (some 2))), (0, .inr (.inr (some 0))), (1, .inl a1), (2, .inl a2)]) (st' := [.inl 2, .inl a2]) (h' := gc_h sh I J A) (C := ((True ∧ True) ∧ True)) rfl ⟨⟨trivial, trivial⟩, trivial⟩ ?_
        refine gv_icmp_ne (t := 58) hD rfl rfl ⟨⟨by omega, by omega⟩, ⟨by omega, by omega⟩⟩ (fun c21 => ?_) (fun c21 => ?_)
        · show gv_X _ _ (58, [(3, .inr (.inr (some 2))), (0, .inr (.inr (some 0))), (1, .inl a1), (2, .inl a2)], [], sh, gc_h sh I J A)
          refine gv_run 2 true hD (pc' := 60) (lv' := [(3, .inr (.inr (some 2))), (0, .inr (.inr (some 0))), (1, .inl a1), (2, .inl a2)]) (st' := [.inl 2, .inl a2]) (h' := gc_h sh I J A) (C := ((True ∧ True) ∧ True)) rfl ⟨⟨trivial, trivial⟩, trivial⟩ ?_
          refine gv_icmp_le (t := 77) hD rfl rfl ⟨⟨by omega, by omega⟩, ⟨by omega, by omega⟩⟩ (fun c22 => ?_) (fun c22 => ?_)
          · exfalso; omega
          · show gv_X _ _ (63, [(3, .inr (.inr (some 2))), (0, .inr (.inr (some 0))), (1, .inl a1), (2, .inl a2)], [], sh, gc_h sh I J A)
            refine gv_run 2 true hD (pc' := 65) (lv' := [(3, .inr (.inr (some 2))), (0, .inr (.inr (some 0))), (1, .inl a1), (2, .inl a2)]) (st' := [.inl a1, .inr (.inr (some 0))]) (h' := gc_h sh I J A) (C := ((True ∧ True) ∧ True)) rfl ⟨⟨trivial, trivial⟩, trivial⟩ ?_
            refine gv_callV hD rfl (As := [.inl a1]) (st := []) rfl B_0 S_0 rfl (gc_lV12 hws rfl) (Nat.le_of_ble_eq_true rfl) (gz_Ev_mono (d := 1) (by decide) (d_X12_tongueAt hws htb (J := J) hI hb (by omega) (by omega) x1)) ?_
            show gv_X _ _ (68, [(3, .inr (.inr (some 2))), (0, .inr (.inr (some 0))), (1, .inl a1), (2, .inl a2)], [.inr (.inr (some t))], sh, gc_h sh I J A)
            refine gv_run 3 true hD (pc' := 73) (lv' := [(4, .inr (.inr (some t))), (3, .inr (.inr (some 2))), (0, .inr (.inr (some 0))), (1, .inl a1), (2, .inl a2)]) (st' := [.inl a2, .inr (.inr (some t))]) (h' := gc_h sh I J A) (C := (((True ∧ True) ∧ True) ∧ True)) rfl ⟨⟨⟨trivial, trivial⟩, trivial⟩, trivial⟩ ?_
            refine gv_callV hD rfl (As := [.inl a2]) (st := []) rfl B_t S_t rfl (gc_lV12 hws rfl) (Nat.le_of_ble_eq_true rfl) (gz_Ev_mono (d := 1) (by decide) (d_X11_namesOf_4q htb (J := J) h_t (a2 := a2) (by omega))) ?_
            show gv_X _ _ (76, [(4, .inr (.inr (some t))), (3, .inr (.inr (some 2))), (0, .inr (.inr (some 0))), (1, .inl a1), (2, .inl a2)], [.inr (.inr (some (t + 3)))], sh, gc_h sh I J A)
            refine gv_run 1 true hD (pc' := 77) (lv' := [(3, .inr (.inr (some (t + 3)))), (4, .inr (.inr (some t))), (0, .inr (.inr (some 0))), (1, .inl a1), (2, .inl a2)]) (st' := []) (h' := gc_h sh I J A) (C := (True ∧ True)) rfl ⟨trivial, trivial⟩ ?_
            refine gv_pick [2, 0] rfl ?_
            exact L77 
        · exfalso; omega
      · exfalso; omega
    · exfalso; omega
set_option maxHeartbeats 4000000 in
theorem hh_number_4_z {ws0 : List Cond} {tb : String → gz_T} (hws : gc_Ws ws0) (htb : gc_tbs tb) {sh : gz_Sh} {ro : Nat → Nat} {I : gr_I} {J : gr_J} {A : gc_A} (hs : gh_HS sh ro I J A) (hc : gh_HC sh ro A I) (a1 : Int) (a2 : Int) (h1 : 0 ≤ a1 ∧ a1 < I 8 1) (ra2 : 4 ≤ a2 ∧ a2 ≤ 4) (β : Int → Int) (η : Int) (y0 : gs_TX β η (I 24)) (y1 : η = I 23 1) : ∃ (t : Nat) (z : Int) (I' : gr_I) (J' : gr_J), A 10 (Int.toNat a1) = some t ∧ gz_Ev ws0 tb 100 (yX12_number, cX12_number, 6, (some .int)) [.inr (.inr (some 0)), .inl a1, .inl a2] sh (gc_h sh I J A) (some (.inl z)) sh (gc_h sh I' J' A) 0 0 ∧ z = gs_nz (gs_on β η) (J (t + 4)) (I (t + 3) 1) ∧ gh_K sh ro A I J I' J' (0) := by
  have hb := hs.1
  have hI := hs.2.1
  have hok := hs.2.2.1
  have hT := hs.2.2.2.1
  have hU := hs.2.2.2.2.1
  have i8 : 0 ≤ I 8 1 ∧ I 8 1 ≤ 8 := gc_in hI (gc_bR hb (by decide) rfl) rfl rfl
  have h144 := gc_Base_len hb
  obtain ⟨c1, c2, c3, c4, c5, c6, c7, c8⟩ := id hc
  obtain ⟨t, ht, tL, tv, tl, tw⟩ := hU (Int.toNat a1) (by omega)
  have Tt := hT.1 (Int.toNat a1) t (by omega) ht
  have Gt := Tt.2.1
  have FB := c6 (Int.toNat a1) t (by omega) ht
  obtain ⟨r, h', E, I', J', rfl, hI', g, k, z, rfl, p0, p1, p2, p3⟩ := d_X12_number_4_p hws htb sh ro I J A hI t a1 a2 β η hb Tt.1 Tt.2.1 ⟨by omega, by omega⟩ ⟨by omega, by omega⟩ ⟨by omega, by omega⟩ ht y0 y1
  have ok' : gc_OK sh I' J' A := gh_OK_g hok (fun q j => (g q j).elim (fun h => by
      rcases h with ⟨rfl, rfl⟩ | ⟨rfl, rfl⟩ | ⟨rfl, rfl⟩ | ⟨rfl, rfl⟩ | ⟨rfl, rfl⟩
      · exact Or.inl (gh_ok0 (gc_bS hb (p := 23) rfl) rfl)
      · exact Or.inl (gh_ok0 (gc_bS hb (p := 23) rfl) rfl)
      · exact Or.inl (gh_ok0 (gc_bS hb (p := 23) rfl) rfl)
      · exact Or.inl (gh_ok0 (gc_bS hb (p := 23) rfl) rfl)
      · exact Or.inl (gh_ok0 (gc_bS hb (p := 23) rfl) rfl)
      ) Or.inr) (fun q j => (k q j).imp (fun h => by omega) id)
  have hk := gh_HS_n hs hI' ok' (fun q j => (g q j).imp (fun h => by omega) id) (fun q j => (k q j).imp (fun h => by omega) id)
  refine ⟨t, z, I', J', ht, gz_Ev_mono (by decide) E, p3, ⟨hk.1, ⟨(gc_FN_fr c1 (fun k => ((g 49 k).resolve_left (by omega))) (fun k => ((g 50 k).resolve_left (by omega)))), (gc_FZ_fr c2 ((g 2 1).resolve_left (by omega)) (fun k => ((g 49 k).resolve_left (by omega))) (fun k => ((g 50 k).resolve_left (by omega)))), (by have h1 := ((g 86 2).resolve_left (by omega)); have h2 := ((g 86 4).resolve_left (by omega)); omega), (by have h1 := ((g 100 2).resolve_left (by omega)); have h2 := ((g 100 1).resolve_left (by omega)); have h3 := hk.2.1 8 1 (by decide) (by decide); omega), (gh_SN_fr c5 ((g 100 9).resolve_left (by omega))), (gh_FBT_fr c6 hk.2 (fun i t d j hi ht h1 h2 => (g (t + d) j).resolve_left (by have := (hT.1 i t hi ht).2.1; omega))), (gh_TRE_k c7 hk.2 (fun q j h1 h2 h3 => ((g q j).resolve_left (by omega)))), (gh_RKO_fr hs c8 hk.2 (fun q j h1 h2 => ((g q j).resolve_left (by omega))))⟩, hk.2, by omega, (fun k9 h9 => ((g 24 k9).resolve_left (by omega))), ((g 100 9).resolve_left (by omega))⟩⟩
set_option maxHeartbeats 4000000 in
set_option maxRecDepth 100000 in
theorem d_X12_number_5_p {ws0 : List Cond} {tb : String → gz_T} (hws : gc_Ws ws0) (htb : gc_tbs tb) (sh : gz_Sh) (ro : Nat → Nat) (I : gr_I) (J : gr_J) (A : gc_A) (hI : gc_Inv ro I) (t : Nat) (a1 : Int) (a2 : Int) (β : Int → Int) (η : Int) (hb : gc_Base sh ro A) (h_t : gc_isTongue sh ro A t) (G_t : 144 ≤ t) (ha1 : 0 ≤ a1 ∧ a1 ≤ 7) (ha2 : 5 ≤ a2 ∧ a2 ≤ 5) (x0 : 0 ≤ a1 ∧ a1 < I 8 1) (x1 : A 10 (Int.toNat a1) = some t) (y0 : gs_TX β η (I 24)) (y1 : η = I 23 1) : ∃ r h', gz_Ev ws0 tb 5 (yX12_number, cX12_number, 6, (some .int)) [.inr (.inr (some 0)), .inl a1, .inl a2] sh (gc_h sh I J A) r sh h' 0 0 ∧ (∃ (I' : gr_I) (J' : gr_J), h' = gc_h sh I' J' A ∧ gc_Inv ro I' ∧ (∀ q j : Nat, ((q = 23 ∧ j = 1) ∨ (q = 23 ∧ j = 5) ∨ (q = 23 ∧ j = 6) ∨ (q = 23 ∧ j = 7) ∨ (q = 23 ∧ j = 8)) ∨ I' q j = I q j) ∧ (∀ q j : Nat, ((q = 23 ∧ j = 9)) ∨ J' q j = J q j) ∧ (∃ z : Int, r = some (.inl z) ∧ (-1) ≤ z ∧ z ≤ 399 ∧ (I' 23 1 = 0) ∧ (z = gs_nz (gs_on β η) (J (t + 12)) (I (t + 11) 1)))) := by
  have FI : ∀ q j : Nat, ((q = 23 ∧ j = 1) ∨ (q = 23 ∧ j = 5) ∨ (q = 23 ∧ j = 6) ∨ (q = 23 ∧ j = 7) ∨ (q = 23 ∧ j = 8)) ∨ I q j = I q j := fun _ _ => Or.inr rfl
  have FJ : ∀ q j : Nat, ((q = 23 ∧ j = 9)) ∨ J q j = J q j := fun _ _ => Or.inr rfl
  have A_0_0 : A 0 0 = some 1 := gc_bA hb rfl
  have A_0_1 : A 0 1 = some 23 := gc_bA hb rfl
  have A_1_0 : A 1 0 = some 2 := gc_bA hb rfl
  have B_0 : 0 < 1000000 := by decide
  have B_1 : 1 < 1000000 := by decide
  have B_23 : 23 < 1000000 := by decide
  have R_23 : ro 23 = 3 := gc_bR hb (by decide) rfl
  have S_0 : sh[0]? = some (false, 12, 17) := gc_bS hb rfl
  have S_1 : sh[1]? = some (false, 8, 21) := gc_bS hb rfl
  have S_23 : sh[23]? = some (false, 9, 10) := gc_bS hb rfl
  obtain ⟨S_t, R_t, B_t, A_t_0, h_t_1, A_t_1, h_t_3, A_t_2, S_t_5, R_t_5, B_t_5, A_t_3, S_t_6, R_t_6, B_t_6, A_t_4, h_t_7, A_t_5, S_t_9, R_t_9, B_t_9, A_t_7, S_t_10, R_t_10, B_t_10, A_t_8, h_t_11, A_t_9, S_t_13, R_t_13, B_t_13, A_t_10, S_t_14, R_t_14, B_t_14, A_t_12, S_t_15, R_t_15, B_t_15, A_t_14, S_t_16, R_t_16, B_t_16, A_t_15, h_t_17⟩ := id h_t
  obtain ⟨S_t_1, R_t_1, B_t_1, A_t_1_0, S_t_1_1, R_t_1_1, B_t_1_1, Q0_t_1, Q1_t_1, Q2_t_1⟩ := id h_t_1
  obtain ⟨S_t_3, R_t_3, B_t_3, A_t_3_0, S_t_3_1, R_t_3_1, B_t_3_1, Q0_t_3, Q1_t_3, Q2_t_3⟩ := id h_t_3
  obtain ⟨S_t_7, R_t_7, B_t_7, A_t_7_0, S_t_7_1, R_t_7_1, B_t_7_1, Q0_t_7, Q1_t_7, Q2_t_7⟩ := id h_t_7
  obtain ⟨S_t_11, R_t_11, B_t_11, A_t_11_0, S_t_11_1, R_t_11_1, B_t_11_1, Q0_t_11, Q1_t_11, Q2_t_11⟩ := id h_t_11
  obtain ⟨S_t_17, R_t_17, B_t_17, A_t_17_0, S_20, R_20, B_20, A_t_17_1, S_t_17_1, R_t_17_1, B_t_17_1, A_t_17_2, S_t_17_2, R_t_17_2, B_t_17_2, A_t_17_3, S_t_17_3, R_t_17_3, B_t_17_3, A_t_17_4, S_t_17_4, R_t_17_4, B_t_17_4, A_t_17_5, S_t_17_5, R_t_17_5, B_t_17_5, S_t_17_6, R_t_17_6, B_t_17_6, S_t_17_7, R_t_17_7, B_t_17_7⟩ := id h_t_17
  have hD : gv_D (gc_E12 ws0 tb 4 (yX12_number, cX12_number, 6, (some .int)) kX12_number) := gq_ok oX12_number
  refine gc_ev12 (d := 4) (l := kX12_number) (Po := fun r h' => (∃ (I' : gr_I) (J' : gr_J), h' = gc_h sh I' J' A ∧ gc_Inv ro I' ∧ (∀ q j : Nat, ((q = 23 ∧ j = 1) ∨ (q = 23 ∧ j = 5) ∨ (q = 23 ∧ j = 6) ∨ (q = 23 ∧ j = 7) ∨ (q = 23 ∧ j = 8)) ∨ I' q j = I q j) ∧ (∀ q j : Nat, ((q = 23 ∧ j = 9)) ∨ J' q j = J q j) ∧ (∃ z : Int, r = some (.inl z) ∧ (-1) ≤ z ∧ z ≤ 399 ∧ (I' 23 1 = 0) ∧ (z = gs_nz (gs_on β η) (J (t + 12)) (I (t + 11) 1))))) htb rfl (Nat.le_of_ble_eq_true rfl) ?_
  have f1 := (show 0 ≤ I 23 1 ∧ I 23 1 ≤ 1000 from gc_in hI R_23 rfl rfl)
  have L77 : gv_X (gc_E12 ws0 tb 4 (yX12_number, cX12_number, 6, (some .int)) kX12_number) (gv_Q cX12_number (some .int) sh (fun r h' => (∃ (I' : gr_I) (J' : gr_J), h' = gc_h sh I' J' A ∧ gc_Inv ro I' ∧ (∀ q j : Nat, ((q = 23 ∧ j = 1) ∨ (q = 23 ∧ j = 5) ∨ (q = 23 ∧ j = 6) ∨ (q = 23 ∧ j = 7) ∨ (q = 23 ∧ j = 8)) ∨ I' q j = I q j) ∧ (∀ q j : Nat, ((q = 23 ∧ j = 9)) ∨ J' q j = J q j) ∧ (∃ z : Int, r = some (.inl z) ∧ (-1) ≤ z ∧ z ≤ 399 ∧ (I' 23 1 = 0) ∧ (z = gs_nz (gs_on β η) (J (t + 12)) (I (t + 11) 1)))))) (77, [(0, .inr (.inr (some 0))), (3, .inr (.inr (some (t + 11))))], [], sh, gc_h sh I J A) := by
    have f3 := (show 0 ≤ I 23 1 ∧ I 23 1 ≤ 1000 from gc_in hI R_23 rfl rfl)
    have L111 : ∀ (I4 : gr_I) (J5 : gr_J) (s0_6 : Int), gc_Inv ro I4 → (∀ q j : Nat, ((q = 23 ∧ j = 1) ∨ (q = 23 ∧ j = 5) ∨ (q = 23 ∧ j = 6) ∨ (q = 23 ∧ j = 7) ∨ (q = 23 ∧ j = 8)) ∨ I4 q j = I q j) → (∀ q j : Nat, ((q = 23 ∧ j = 9)) ∨ J5 q j = J q j) → (((-1) ≤ s0_6 ∧ s0_6 ≤ 399) ∧ (I4 23 1 = 0)) → (s0_6 = gs_nz (gs_on β η) (J (t + 12)) (I (t + 11) 1)) → gv_X (gc_E12 ws0 tb 4 (yX12_number, cX12_number, 6, (some .int)) kX12_number) (gv_Q cX12_number (some .int) sh (fun r h' => (∃ (I' : gr_I) (J' : gr_J), h' = gc_h sh I' J' A ∧ gc_Inv ro I' ∧ (∀ q j : Nat, ((q = 23 ∧ j = 1) ∨ (q = 23 ∧ j = 5) ∨ (q = 23 ∧ j = 6) ∨ (q = 23 ∧ j = 7) ∨ (q = 23 ∧ j = 8)) ∨ I' q j = I q j) ∧ (∀ q j : Nat, ((q = 23 ∧ j = 9)) ∨ J' q j = J q j) ∧ (∃ z : Int, r = some (.inl z) ∧ (-1) ≤ z ∧ z ≤ 399 ∧ (I' 23 1 = 0) ∧ (z = gs_nz (gs_on β η) (J (t + 12)) (I (t + 11) 1)))))) (111, [], [.inl s0_6], sh, gc_h sh I4 J5 A) := by
      intro I4 J5 s0_6 hI4 FI4 FJ5 m_6 o_6
      clear f3
      obtain ⟨hs0_6, e0_6⟩ := m_6
      have f7 := (show 0 ≤ I4 23 1 ∧ I4 23 1 ≤ 1000 from gc_in hI4 R_23 rfl rfl)
      exact gv_iret hD rfl ⟨I4, J5, rfl, hI4, FI4, FJ5, ⟨_, rfl, hs0_6.1, hs0_6.2, e0_6, o_6⟩⟩
    refine gv_run 1 true hD (pc' := 78) (lv' := [(0, .inr (.inr (some 0))), (3, .inr (.inr (some (t + 11))))]) (st' := [.inr (.inr (some 0))]) (h' := gc_h sh I J A) (C := (True ∧ True)) rfl ⟨trivial, trivial⟩ ?_
    refine gv_get hD rfl rfl S_0 ⟨by decide, B_0⟩ (gc_hA S_0 rfl A_0_1) ?_
    show gv_X _ _ (81, [(0, .inr (.inr (some 0))), (3, .inr (.inr (some (t + 11))))], [.inr (.inr (some 23))], sh, gc_h sh I J A)
    obtain ⟨r8, h8, E8, P8⟩ := d_X9_onlyName_p (ws0 := ws0) (tb := tb) hws htb sh ro I J A hI 23 β η (gc_b23 hb) y0 y1
    obtain ⟨I9, J10, rfl, hI9, g8, k8, ⟨z8, rfl, V8_0, V8_1, V8_2, V8_3, V8_4, q8⟩⟩ := P8
    have FI9 := gc_frc (W := fun q j => (q = 23 ∧ j = 1) ∨ (q = 23 ∧ j = 5) ∨ (q = 23 ∧ j = 6) ∨ (q = 23 ∧ j = 7) ∨ (q = 23 ∧ j = 8)) (V := fun q j => (q = 23 ∧ j = 5) ∨ (q = 23 ∧ j = 6) ∨ (q = 23 ∧ j = 7) ∨ (q = 23 ∧ j = 8)) FI (fun q j h => (h.elim (fun h => (Or.inr (Or.inl h))) (fun h => (h.elim (fun h => (Or.inr (Or.inr (Or.inl h)))) (fun h => (h.elim (fun h => (Or.inr (Or.inr (Or.inr (Or.inl h))))) (fun h => (Or.inr (Or.inr (Or.inr (Or.inr h))))))))))) g8
    have FJ10 := gc_frc (W := fun q j => (q = 23 ∧ j = 9)) (V := fun q j => (q = 23 ∧ j = 9)) FJ (fun q j h => h) k8
    have t11 := (g8 23 1).resolve_left (fun h => h.elim (fun h => absurd h.2 (by decide)) (fun h => h.elim (fun h => absurd h.2 (by decide)) (fun h => h.elim (fun h => absurd h.2 (by decide)) (fun h => absurd h.2 (by decide)))))
    refine gv_callV hD rfl (As := []) (st := []) rfl B_23 S_23 rfl (gc_lV12 hws rfl) (Nat.le_of_ble_eq_true rfl) (gz_Ev_mono (d := 4) (by decide) E8) ?_
    show gv_X _ _ (84, [(0, .inr (.inr (some 0))), (3, .inr (.inr (some (t + 11))))], [.inr (.inl z8)], sh, gc_h sh I9 J10 A)
    refine gv_run 2 true hD (pc' := 87) (lv' := [(4, .inr (.inl z8)), (0, .inr (.inr (some 0))), (3, .inr (.inr (some (t + 11))))]) (st' := [.inr (.inr (some 0))]) (h' := gc_h sh I9 J10 A) (C := ((True ∧ True) ∧ True)) rfl ⟨⟨trivial, trivial⟩, trivial⟩ ?_
    refine gv_get hD rfl rfl S_0 ⟨by decide, B_0⟩ (gc_hA S_0 rfl A_0_1) ?_
    show gv_X _ _ (90, [(4, .inr (.inl z8)), (0, .inr (.inr (some 0))), (3, .inr (.inr (some (t + 11))))], [.inr (.inr (some 23))], sh, gc_h sh I9 J10 A)
    refine gv_run 1 true hD (pc' := 91) (lv' := [(4, .inr (.inl z8)), (0, .inr (.inr (some 0))), (3, .inr (.inr (some (t + 11))))]) (st' := [.inl 0, .inr (.inr (some 23))]) (h' := gc_h sh I9 J10 A) (C := (True ∧ True)) rfl ⟨trivial, trivial⟩ ?_
    refine gv_put hD rfl rfl S_23 ⟨by decide, B_23⟩ rfl trivial ?_
    refine gc_st (k := 1) hI9 S_23 rfl R_23 (lo := 0) (hi := 1000) rfl rfl (by omega) (by omega) (fun I12 hI12 q13 p13 => ?_)
    have FI12 := gc_frs (W := fun q j => (q = 23 ∧ j = 1) ∨ (q = 23 ∧ j = 5) ∨ (q = 23 ∧ j = 6) ∨ (q = 23 ∧ j = 7) ∨ (q = 23 ∧ j = 8)) FI9 (Or.inl ⟨rfl, rfl⟩) p13
    have f14 := (show 0 ≤ I12 23 1 ∧ I12 23 1 ≤ 1000 from gc_in hI12 R_23 rfl rfl)
    show gv_X _ _ (94, [(4, .inr (.inl z8)), (0, .inr (.inr (some 0))), (3, .inr (.inr (some (t + 11))))], [], sh, gc_h sh I12 J10 A)
    have f15 := gw_cmp (z8) ((Int64.ofNat 0))
    refine gv_run 3 true hD (pc' := 98) (lv' := [(4, .inr (.inl z8)), (0, .inr (.inr (some 0))), (3, .inr (.inr (some (t + 11))))]) (st' := [.inl ((lg_cmp (z8) ((Int64.ofNat 0))).toInt)]) (h' := gc_h sh I12 J10 A) (C := (((True ∧ True) ∧ True) ∧ True)) rfl ⟨⟨⟨trivial, trivial⟩, trivial⟩, trivial⟩ ?_
    refine gv_if_ne (t := 105) hD rfl rfl ⟨by omega, by omega⟩ (fun c16 => ?_) (fun c16 => ?_)
    · show gv_X _ _ (105, [(4, .inr (.inl z8)), (0, .inr (.inr (some 0))), (3, .inr (.inr (some (t + 11))))], [], sh, gc_h sh I12 J10 A)
      refine gv_run 2 true hD (pc' := 108) (lv' := [(4, .inr (.inl z8)), (0, .inr (.inr (some 0))), (3, .inr (.inr (some (t + 11))))]) (st' := [.inr (.inl z8), .inr (.inr (some (t + 11)))]) (h' := gc_h sh I12 J10 A) (C := ((True ∧ True) ∧ True)) rfl ⟨⟨trivial, trivial⟩, trivial⟩ ?_
      obtain ⟨r17, h17, E17, P17⟩ := d_X4_find (ws0 := ws0) (tb := tb) hws htb sh ro I12 J10 A hI12 (t + 11) 24 8 z8 h_t_11     
      obtain ⟨rfl, ⟨z17, rfl, q17⟩⟩ := P17
      refine gv_callV hD rfl (As := [.inr (.inl z8)]) (st := []) rfl B_t_11 S_t_11 rfl (gc_lV12 hws rfl) (Nat.le_of_ble_eq_true rfl) (gz_Ev_mono (d := 1) (by decide) E17) ?_
      show gv_X _ _ (111, [(4, .inr (.inl z8)), (0, .inr (.inr (some 0))), (3, .inr (.inr (some (t + 11))))], [.inl z17], sh, gc_h sh I12 J10 A)
      refine gv_pick [] rfl ?_
      exact L111 I12 J10 z17 hI12 FI12 FJ10 (by omega) (gs_nz_c q17.2.2.2 q8.2 (gc_cmpn c16) (fun j => (FJ10 (t + 12) j).resolve_left (by omega)) ((FI12 (t + 11) 1).resolve_left (by omega)))
    · show gv_X _ _ (101, [(4, .inr (.inl z8)), (0, .inr (.inr (some 0))), (3, .inr (.inr (some (t + 11))))], [], sh, gc_h sh I12 J10 A)
      refine gv_run 2 true hD (pc' := 111) (lv' := [(4, .inr (.inl z8)), (0, .inr (.inr (some 0))), (3, .inr (.inr (some (t + 11))))]) (st' := [.inl (-1)]) (h' := gc_h sh I12 J10 A) (C := ((True ∧ True) ∧ True)) rfl ⟨⟨trivial, trivial⟩, trivial⟩ ?_
      refine gv_pick [] rfl ?_
      exact L111 I12 J10 (-1) hI12 FI12 FJ10 (by omega) (gs_nz_z (q8.2.symm.trans (gc_cmp0 c16))).symm
  refine gv_run 1 true hD (pc' := 1) (lv' := [(0, .inr (.inr (some 0))), (1, .inl a1), (2, .inl a2)]) (st' := [.inl a2]) (h' := gc_h sh I J A) (C := (True ∧ True)) rfl ⟨trivial, trivial⟩ ?_
  refine gv_if_lt (t := 9) hD rfl rfl ⟨by omega, by omega⟩ (fun c18 => ?_) (fun c18 => ?_)
  · exfalso; omega
  · show gv_X _ _ (4, [(0, .inr (.inr (some 0))), (1, .inl a1), (2, .inl a2)], [], sh, gc_h sh I J A)
    refine gv_run 2 true hD (pc' := 6) (lv' := [(0, .inr (.inr (some 0))), (1, .inl a1), (2, .inl a2)]) (st' := [.inl 5, .inl a2]) (h' := gc_h sh I J A) (C := ((True ∧ True) ∧ True)) rfl ⟨⟨trivial, trivial⟩, trivial⟩ ?_
    refine gv_icmp_le (t := 19) hD rfl rfl ⟨⟨by omega, by omega⟩, ⟨by omega, by omega⟩⟩ (fun c19 => ?_) (fun c19 => ?_)
    · show gv_X _ _ (19, [(0, .inr (.inr (some 0))), (1, .inl a1), (2, .inl a2)], [], sh, gc_h sh I J A)
      refine gv_run 1 true hD (pc' := 20) (lv' := [(0, .inr (.inr (some 0))), (1, .inl a1), (2, .inl a2)]) (st' := [.inr (.inr (some 0))]) (h' := gc_h sh I J A) (C := (True ∧ True)) rfl ⟨trivial, trivial⟩ ?_
      refine gv_get hD rfl rfl S_0 ⟨by decide, B_0⟩ (gc_hA S_0 rfl A_0_0) ?_
      show gv_X _ _ (23, [(0, .inr (.inr (some 0))), (1, .inl a1), (2, .inl a2)], [.inr (.inr (some 1))], sh, gc_h sh I J A)
      refine gv_get hD rfl rfl S_1 ⟨by decide, B_1⟩ (gc_hA S_1 rfl A_1_0) ?_
      show gv_X _ _ (26, [(0, .inr (.inr (some 0))), (1, .inl a1), (2, .inl a2)], [.inr (.inr (some 2))], sh, gc_h sh I J A)
      refine gv_run 2 true hD (pc' := 28) (lv' := [(3, .inr (.inr (some 2))), (0, .inr (.inr (some 0))), (1, .inl a1), (2, .inl a2)]) (st' := [.inl a2]) (h' := gc_h sh I J A) (C := ((True ∧ True) ∧ True)) rfl ⟨⟨trivial, trivial⟩, trivial⟩ ?_
      refine gv_if_ne (t := 42) hD rfl rfl ⟨by omega, by omega⟩ (fun c20 => ?_) (fun c20 => ?_)
      · show gv_X _ _ (42, [(3, .inr (.inr (some 2))), (0, .inr (.inr (some 0))), (1, .inl a1), (2, .inl a2)], [], sh, gc_h sh I J A)
        refine gv_run 2 true hD (pc' := 44) (lv' := [(3, .inr (.inr (some 2))), (0, .inr (.inr (some 0))), (1, .inl a1), (2, .inl a2)]) (st' := [.inl 2, .inl a2]) (h' := gc_h sh I J A) (C := ((True ∧ True) ∧ True)) rfl ⟨⟨trivial, trivial⟩, trivial⟩ ?_
        refine gv_icmp_ne (t := 58) hD rfl rfl ⟨⟨by omega, by omega⟩, ⟨by omega, by omega⟩⟩ (fun c21 => ?_) (fun c21 => ?_)
        · show gv_X _ _ (58, [(3, .inr (.inr (some 2))), (0, .inr (.inr (some 0))), (1, .inl a1), (2, .inl a2)], [], sh, gc_h sh I J A)
          refine gv_run 2 true hD (pc' := 60) (lv' := [(3, .inr (.inr (some 2))), (0, .inr (.inr (some 0))), (1, .inl a1), (2, .inl a2)]) (st' := [.inl 2, .inl a2]) (h' := gc_h sh I J A) (C := ((True ∧ True) ∧ True)) rfl ⟨⟨trivial, trivial⟩, trivial⟩ ?_
          refine gv_icmp_le (t := 77) hD rfl rfl ⟨⟨by omega, by omega⟩, ⟨by omega, by omega⟩⟩ (fun c22 => ?_) (fun c22 => ?_)
          · exfalso; omega
          · show gv_X _ _ (63, [(3, .inr (.inr (some 2))), (0, .inr (.inr (some 0))), (1, .inl a1), (2, .inl a2)], [], sh, gc_h sh I J A)
            refine gv_run 2 true hD (pc' := 65) (lv' := [(3, .inr (.inr (some 2))), (0, .inr (.inr (some 0))), (1, .inl a1), (2, .inl a2)]) (st' := [.inl a1, .inr (.inr (some 0))]) (h' := gc_h sh I J A) (C := ((True ∧ True) ∧ True)) rfl ⟨⟨trivial, trivial⟩, trivial⟩ ?_
            refine gv_callV hD rfl (As := [.inl a1]) (st := []) rfl B_0 S_0 rfl (gc_lV12 hws rfl) (Nat.le_of_ble_eq_true rfl) (gz_Ev_mono (d := 1) (by decide) (d_X12_tongueAt hws htb (J := J) hI hb (by omega) (by omega) x1)) ?_
            show gv_X _ _ (68, [(3, .inr (.inr (some 2))), (0, .inr (.inr (some 0))), (1, .inl a1), (2, .inl a2)], [.inr (.inr (some t))], sh, gc_h sh I J A)
            refine gv_run 3 true hD (pc' := 73) (lv' := [(4, .inr (.inr (some t))), (3, .inr (.inr (some 2))), (0, .inr (.inr (some 0))), (1, .inl a1), (2, .inl a2)]) (st' := [.inl a2, .inr (.inr (some t))]) (h' := gc_h sh I J A) (C := (((True ∧ True) ∧ True) ∧ True)) rfl ⟨⟨⟨trivial, trivial⟩, trivial⟩, trivial⟩ ?_
            refine gv_callV hD rfl (As := [.inl a2]) (st := []) rfl B_t S_t rfl (gc_lV12 hws rfl) (Nat.le_of_ble_eq_true rfl) (gz_Ev_mono (d := 1) (by decide) (d_X11_namesOf_5q htb (J := J) h_t (a2 := a2) (by omega))) ?_
            show gv_X _ _ (76, [(4, .inr (.inr (some t))), (3, .inr (.inr (some 2))), (0, .inr (.inr (some 0))), (1, .inl a1), (2, .inl a2)], [.inr (.inr (some (t + 11)))], sh, gc_h sh I J A)
            refine gv_run 1 true hD (pc' := 77) (lv' := [(3, .inr (.inr (some (t + 11)))), (4, .inr (.inr (some t))), (0, .inr (.inr (some 0))), (1, .inl a1), (2, .inl a2)]) (st' := []) (h' := gc_h sh I J A) (C := (True ∧ True)) rfl ⟨trivial, trivial⟩ ?_
            refine gv_pick [2, 0] rfl ?_
            exact L77 
        · exfalso; omega
      · exfalso; omega
    · exfalso; omega
set_option maxHeartbeats 4000000 in
theorem hh_number_5_z {ws0 : List Cond} {tb : String → gz_T} (hws : gc_Ws ws0) (htb : gc_tbs tb) {sh : gz_Sh} {ro : Nat → Nat} {I : gr_I} {J : gr_J} {A : gc_A} (hs : gh_HS sh ro I J A) (hc : gh_HC sh ro A I) (a1 : Int) (a2 : Int) (h1 : 0 ≤ a1 ∧ a1 < I 8 1) (ra2 : 5 ≤ a2 ∧ a2 ≤ 5) (β : Int → Int) (η : Int) (y0 : gs_TX β η (I 24)) (y1 : η = I 23 1) : ∃ (t : Nat) (z : Int) (I' : gr_I) (J' : gr_J), A 10 (Int.toNat a1) = some t ∧ gz_Ev ws0 tb 100 (yX12_number, cX12_number, 6, (some .int)) [.inr (.inr (some 0)), .inl a1, .inl a2] sh (gc_h sh I J A) (some (.inl z)) sh (gc_h sh I' J' A) 0 0 ∧ z = gs_nz (gs_on β η) (J (t + 12)) (I (t + 11) 1) ∧ gh_K sh ro A I J I' J' (0) := by
  have hb := hs.1
  have hI := hs.2.1
  have hok := hs.2.2.1
  have hT := hs.2.2.2.1
  have hU := hs.2.2.2.2.1
  have i8 : 0 ≤ I 8 1 ∧ I 8 1 ≤ 8 := gc_in hI (gc_bR hb (by decide) rfl) rfl rfl
  have h144 := gc_Base_len hb
  obtain ⟨c1, c2, c3, c4, c5, c6, c7, c8⟩ := id hc
  obtain ⟨t, ht, tL, tv, tl, tw⟩ := hU (Int.toNat a1) (by omega)
  have Tt := hT.1 (Int.toNat a1) t (by omega) ht
  have Gt := Tt.2.1
  have FB := c6 (Int.toNat a1) t (by omega) ht
  obtain ⟨r, h', E, I', J', rfl, hI', g, k, z, rfl, p0, p1, p2, p3⟩ := d_X12_number_5_p hws htb sh ro I J A hI t a1 a2 β η hb Tt.1 Tt.2.1 ⟨by omega, by omega⟩ ⟨by omega, by omega⟩ ⟨by omega, by omega⟩ ht y0 y1
  have ok' : gc_OK sh I' J' A := gh_OK_g hok (fun q j => (g q j).elim (fun h => by
      rcases h with ⟨rfl, rfl⟩ | ⟨rfl, rfl⟩ | ⟨rfl, rfl⟩ | ⟨rfl, rfl⟩ | ⟨rfl, rfl⟩
      · exact Or.inl (gh_ok0 (gc_bS hb (p := 23) rfl) rfl)
      · exact Or.inl (gh_ok0 (gc_bS hb (p := 23) rfl) rfl)
      · exact Or.inl (gh_ok0 (gc_bS hb (p := 23) rfl) rfl)
      · exact Or.inl (gh_ok0 (gc_bS hb (p := 23) rfl) rfl)
      · exact Or.inl (gh_ok0 (gc_bS hb (p := 23) rfl) rfl)
      ) Or.inr) (fun q j => (k q j).imp (fun h => by omega) id)
  have hk := gh_HS_n hs hI' ok' (fun q j => (g q j).imp (fun h => by omega) id) (fun q j => (k q j).imp (fun h => by omega) id)
  refine ⟨t, z, I', J', ht, gz_Ev_mono (by decide) E, p3, ⟨hk.1, ⟨(gc_FN_fr c1 (fun k => ((g 49 k).resolve_left (by omega))) (fun k => ((g 50 k).resolve_left (by omega)))), (gc_FZ_fr c2 ((g 2 1).resolve_left (by omega)) (fun k => ((g 49 k).resolve_left (by omega))) (fun k => ((g 50 k).resolve_left (by omega)))), (by have h1 := ((g 86 2).resolve_left (by omega)); have h2 := ((g 86 4).resolve_left (by omega)); omega), (by have h1 := ((g 100 2).resolve_left (by omega)); have h2 := ((g 100 1).resolve_left (by omega)); have h3 := hk.2.1 8 1 (by decide) (by decide); omega), (gh_SN_fr c5 ((g 100 9).resolve_left (by omega))), (gh_FBT_fr c6 hk.2 (fun i t d j hi ht h1 h2 => (g (t + d) j).resolve_left (by have := (hT.1 i t hi ht).2.1; omega))), (gh_TRE_k c7 hk.2 (fun q j h1 h2 h3 => ((g q j).resolve_left (by omega)))), (gh_RKO_fr hs c8 hk.2 (fun q j h1 h2 => ((g q j).resolve_left (by omega))))⟩, hk.2, by omega, (fun k9 h9 => ((g 24 k9).resolve_left (by omega))), ((g 100 9).resolve_left (by omega))⟩⟩
set_option maxHeartbeats 4000000 in
set_option maxRecDepth 100000 in
theorem r_number_z {ws0 : List Cond} {tb : String → gz_T} (hws : ∀ w ∈ gr_ws, w ∈ ws0) (htb : tb RX13 = gr_T) (ext : gz_Sh) (β : Int → Int) (N9 : Int) (I : gr_I) (J : gr_J) (hI : gr_Inv I) (a1 : Int) (a2 : Int) (ha1 : (-2147483648) ≤ a1 ∧ a1 ≤ 2147483647) (ha2 : (-2147483648) ≤ a2 ∧ a2 ≤ 2147483647) (y0 : gs_TX β N9 (I 56)) (y1 : N9 = I 0 68) : ∃ r h', gz_Ev ws0 tb 11 (yX13_number, cX13_number, 5, (some .int)) [.inr (.inr (some 0)), .inl a1, .inl a2] (gr_sh ++ ext) (gr_h I J) r (gr_sh ++ ext) h' 0 0 ∧ (∃ (I' : gr_I) (J' : gr_J), h' = gr_h I' J' ∧ gr_Inv I' ∧ gr_fr [0, 68, 69, 71, 72, 73, 74, 75] [57] I I' ∧ gr_fj [0, 68, 69, 71, 72, 73, 74, 75] [57] J J' ∧ (∃ z : Int, r = some (.inl z) ∧ (-1) ≤ z ∧ z ≤ 383 ∧ (((0 ≤ a2 ∧ a2 ≤ 5) ∧ (a2 ≤ 2 ∨ (0 ≤ a1 ∧ a1 < I 0 1))) → I' 0 68 = 0 ∧ I' 0 0 = 0 ∧ gs_NR β N9 a1 a2 I J z) ∧ (¬ ((0 ≤ a2 ∧ a2 ≤ 5) ∧ (a2 ≤ 2 ∨ (0 ≤ a1 ∧ a1 < I 0 1))) → I' 0 68 = I 0 68 ∧ I' 0 0 = 1))) := by
  have FI : gr_fr [0, 68, 69, 71, 72, 73, 74, 75] [57] I I := fun _ _ _ => rfl
  have FJ : gr_fj [0, 68, 69, 71, 72, 73, 74, 75] [57] J J := fun _ _ _ => rfl
  have hD : gv_D (gr_E ws0 tb 10 (yX13_number, cX13_number, 5, (some .int)) kX13_number) := gq_ok oX13_number
  refine gr_ev (d := 10) (l := kX13_number) (Po := fun r h' => (∃ (I' : gr_I) (J' : gr_J), h' = gr_h I' J' ∧ gr_Inv I' ∧ gr_fr [0, 68, 69, 71, 72, 73, 74, 75] [57] I I' ∧ gr_fj [0, 68, 69, 71, 72, 73, 74, 75] [57] J J' ∧ (∃ z : Int, r = some (.inl z) ∧ (-1) ≤ z ∧ z ≤ 383 ∧ (((0 ≤ a2 ∧ a2 ≤ 5) ∧ (a2 ≤ 2 ∨ (0 ≤ a1 ∧ a1 < I 0 1))) → I' 0 68 = 0 ∧ I' 0 0 = 0 ∧ gs_NR β N9 a1 a2 I J z) ∧ (¬ ((0 ≤ a2 ∧ a2 ≤ 5) ∧ (a2 ≤ 2 ∨ (0 ≤ a1 ∧ a1 < I 0 1))) → I' 0 68 = I 0 68 ∧ I' 0 0 = 1)))) htb rfl (Nat.le_of_ble_eq_true rfl) ?_
  have f1 := (show 0 ≤ I 0 71 ∧ I 0 71 ≤ 5 from (hI 0 71).1)
  have f2 := (show 0 ≤ I 0 72 ∧ I 0 72 ≤ 1000 from (hI 0 72).1)
  have f3 := (show 0 ≤ I 0 73 ∧ I 0 73 ≤ 1001 from (hI 0 73).1)
  have f4 := (show 0 ≤ I 0 69 ∧ I 0 69 ≤ 1000 from (hI 0 69).1)
  have f5 := (show 0 ≤ I 0 1 ∧ I 0 1 ≤ 8 from (hI 0 1).1)
  have f6 := (show 0 ≤ I 0 68 ∧ I 0 68 ≤ 1000 from (hI 0 68).1)
  have f7 := (show 0 ≤ I 0 2 ∧ I 0 2 ≤ 32 from (hI 0 2).1)
  have L31 : ∀ (I8 : gr_I) (J9 : gr_J) , gr_Inv I8 → gr_fr [0, 68, 69, 71, 72, 73, 74, 75] [57] I I8 → gr_fj [0, 68, 69, 71, 72, 73, 74, 75] [57] J J9 → ((I8 0 68 = I 0 68) ∧ (¬ ((0 ≤ a2 ∧ a2 ≤ 5) ∧ (a2 ≤ 2 ∨ (0 ≤ a1 ∧ a1 < I 0 1))))) → gv_X (gr_E ws0 tb 10 (yX13_number, cX13_number, 5, (some .int)) kX13_number) (gv_Q cX13_number (some .int) (gr_sh ++ ext) (fun r h' => (∃ (I' : gr_I) (J' : gr_J), h' = gr_h I' J' ∧ gr_Inv I' ∧ gr_fr [0, 68, 69, 71, 72, 73, 74, 75] [57] I I' ∧ gr_fj [0, 68, 69, 71, 72, 73, 74, 75] [57] J J' ∧ (∃ z : Int, r = some (.inl z) ∧ (-1) ≤ z ∧ z ≤ 383 ∧ (((0 ≤ a2 ∧ a2 ≤ 5) ∧ (a2 ≤ 2 ∨ (0 ≤ a1 ∧ a1 < I 0 1))) → I' 0 68 = 0 ∧ I' 0 0 = 0 ∧ gs_NR β N9 a1 a2 I J z) ∧ (¬ ((0 ≤ a2 ∧ a2 ≤ 5) ∧ (a2 ≤ 2 ∨ (0 ≤ a1 ∧ a1 < I 0 1))) → I' 0 68 = I 0 68 ∧ I' 0 0 = 1))))) (31, [(0, .inr (.inr (some 0)))], [], gr_sh ++ ext, gr_h I8 J9) := by
    intro I8 J9 hI8 FI8 FJ9 m_10
    obtain ⟨e0_10, e1_10⟩ := m_10
    have f11 := (show 0 ≤ I8 0 71 ∧ I8 0 71 ≤ 5 from (hI8 0 71).1)
    have f12 := (show 0 ≤ I8 0 72 ∧ I8 0 72 ≤ 1000 from (hI8 0 72).1)
    have f13 := (show 0 ≤ I8 0 73 ∧ I8 0 73 ≤ 1001 from (hI8 0 73).1)
    have f14 := (show 0 ≤ I8 0 69 ∧ I8 0 69 ≤ 1000 from (hI8 0 69).1)
    have f15 := (show 0 ≤ I8 0 1 ∧ I8 0 1 ≤ 8 from (hI8 0 1).1)
    have f16 := (show 0 ≤ I8 0 68 ∧ I8 0 68 ≤ 1000 from (hI8 0 68).1)
    have f17 := (show 0 ≤ I8 0 2 ∧ I8 0 2 ≤ 32 from (hI8 0 2).1)
    refine gv_run 1 true hD (pc' := 32) (lv' := [(0, .inr (.inr (some 0)))]) (st' := [.inr (.inr (some 0))]) (h' := gr_h I8 J9) (C := (True ∧ True)) rfl ⟨trivial, trivial⟩ ?_
    obtain ⟨r18, h18, E18, P18⟩ := r_bad_t (ws0 := ws0) (tb := tb) hws htb ext I8 J9 hI8   
    obtain ⟨I19, J20, rfl, hI19, g18, k18, ⟨z18, rfl, q18⟩⟩ := P18
    have FI19 := gr_frt FI8 g18 rfl rfl
    have FJ20 := gr_fjt FJ9 k18 rfl rfl
    have t21 := g18 0 71 rfl
    have t22 := g18 0 72 rfl
    have t23 := g18 0 73 rfl
    have t24 := g18 0 69 rfl
    have t25 := g18 0 1 rfl
    have t26 := g18 0 68 rfl
    have t27 := g18 0 2 rfl
    have f28 := (show 0 ≤ I19 0 71 ∧ I19 0 71 ≤ 5 from (hI19 0 71).1)
    have f29 := (show 0 ≤ I19 0 72 ∧ I19 0 72 ≤ 1000 from (hI19 0 72).1)
    have f30 := (show 0 ≤ I19 0 73 ∧ I19 0 73 ≤ 1001 from (hI19 0 73).1)
    have f31 := (show 0 ≤ I19 0 69 ∧ I19 0 69 ≤ 1000 from (hI19 0 69).1)
    have f32 := (show 0 ≤ I19 0 1 ∧ I19 0 1 ≤ 8 from (hI19 0 1).1)
    have f33 := (show 0 ≤ I19 0 68 ∧ I19 0 68 ≤ 1000 from (hI19 0 68).1)
    have f34 := (show 0 ≤ I19 0 2 ∧ I19 0 2 ≤ 32 from (hI19 0 2).1)
    refine gv_callV hD rfl (As := []) (st := []) rfl (by decide) rfl rfl (gr_lV hws rfl) (Nat.le_of_ble_eq_true rfl) (gz_Ev_mono (d := 1) (by decide) E18) ?_
    show gv_X _ _ (35, [(0, .inr (.inr (some 0)))], [.inl z18], gr_sh ++ ext, gr_h I19 J20)
    exact gv_iret hD rfl ⟨I19, J20, rfl, hI19, FI19, FJ20, ⟨_, rfl, by omega, by omega, fun h9 => absurd h9 e1_10, fun _ => ⟨by omega, by omega⟩⟩⟩
  have L36 : ∀ (I35 : gr_I) (J36 : gr_J) , gr_Inv I35 → gr_fr [0, 68, 69, 71, 72, 73, 74, 75] [57] I I35 → gr_fj [0, 68, 69, 71, 72, 73, 74, 75] [57] J J36 → (((-2147483648) ≤ a1 ∧ a1 ≤ 2147483647) ∧ (0 ≤ a2 ∧ a2 ≤ 5) ∧ (a2 ≤ 2 ∨ (0 ≤ a1 ∧ a1 ≤ 7)) ∧ (I35 0 68 = I 0 68) ∧ (((0 ≤ a2 ∧ a2 ≤ 5) ∧ (a2 ≤ 2 ∨ (0 ≤ a1 ∧ a1 < I 0 1))))) → I35 0 0 = 0 → gv_X (gr_E ws0 tb 10 (yX13_number, cX13_number, 5, (some .int)) kX13_number) (gv_Q cX13_number (some .int) (gr_sh ++ ext) (fun r h' => (∃ (I' : gr_I) (J' : gr_J), h' = gr_h I' J' ∧ gr_Inv I' ∧ gr_fr [0, 68, 69, 71, 72, 73, 74, 75] [57] I I' ∧ gr_fj [0, 68, 69, 71, 72, 73, 74, 75] [57] J J' ∧ (∃ z : Int, r = some (.inl z) ∧ (-1) ≤ z ∧ z ≤ 383 ∧ (((0 ≤ a2 ∧ a2 ≤ 5) ∧ (a2 ≤ 2 ∨ (0 ≤ a1 ∧ a1 < I 0 1))) → I' 0 68 = 0 ∧ I' 0 0 = 0 ∧ gs_NR β N9 a1 a2 I J z) ∧ (¬ ((0 ≤ a2 ∧ a2 ≤ 5) ∧ (a2 ≤ 2 ∨ (0 ≤ a1 ∧ a1 < I 0 1))) → I' 0 68 = I 0 68 ∧ I' 0 0 = 1))))) (36, [(0, .inr (.inr (some 0))), (1, .inl a1), (2, .inl a2)], [], gr_sh ++ ext, gr_h I35 J36) := by
    intro I35 J36 hI35 FI35 FJ36 m_37 w_37
    obtain ⟨ha1_37, ha2_37, e0_37, e1_37, e2_37⟩ := m_37
    have f38 := (show 0 ≤ I35 0 71 ∧ I35 0 71 ≤ 5 from (hI35 0 71).1)
    have f39 := (show 0 ≤ I35 0 72 ∧ I35 0 72 ≤ 1000 from (hI35 0 72).1)
    have f40 := (show 0 ≤ I35 0 73 ∧ I35 0 73 ≤ 1001 from (hI35 0 73).1)
    have f41 := (show 0 ≤ I35 0 69 ∧ I35 0 69 ≤ 1000 from (hI35 0 69).1)
    have f42 := (show 0 ≤ I35 0 1 ∧ I35 0 1 ≤ 8 from (hI35 0 1).1)
    have f43 := (show 0 ≤ I35 0 68 ∧ I35 0 68 ≤ 1000 from (hI35 0 68).1)
    have f44 := (show 0 ≤ I35 0 2 ∧ I35 0 2 ≤ 32 from (hI35 0 2).1)
    refine gv_run 1 true hD (pc' := 37) (lv' := [(0, .inr (.inr (some 0))), (1, .inl a1), (2, .inl a2)]) (st' := [.inr (.inr (some 0))]) (h' := gr_h I35 J36) (C := (True ∧ True)) rfl ⟨trivial, trivial⟩ ?_
    obtain ⟨r45, h45, E45, P45⟩ := r_reads_p (ws0 := ws0) (tb := tb) hws htb ext I35 J36 hI35   
    obtain ⟨I46, J47, rfl, hI46, g45, k45, ⟨rfl, q45⟩⟩ := P45
    have w1_ := g45 0 0 rfl
    have FI46 := gr_frt FI35 g45 rfl rfl
    have FJ47 := gr_fjt FJ36 k45 rfl rfl
    have t48 := g45 0 71 rfl
    have t49 := g45 0 72 rfl
    have t50 := g45 0 73 rfl
    have t51 := g45 0 1 rfl
    have t52 := g45 0 2 rfl
    have f53 := (show 0 ≤ I46 0 71 ∧ I46 0 71 ≤ 5 from (hI46 0 71).1)
    have f54 := (show 0 ≤ I46 0 72 ∧ I46 0 72 ≤ 1000 from (hI46 0 72).1)
    have f55 := (show 0 ≤ I46 0 73 ∧ I46 0 73 ≤ 1001 from (hI46 0 73).1)
    have f56 := (show 0 ≤ I46 0 69 ∧ I46 0 69 ≤ 1000 from (hI46 0 69).1)
    have f57 := (show 0 ≤ I46 0 1 ∧ I46 0 1 ≤ 8 from (hI46 0 1).1)
    have f58 := (show 0 ≤ I46 0 68 ∧ I46 0 68 ≤ 1000 from (hI46 0 68).1)
    have f59 := (show 0 ≤ I46 0 2 ∧ I46 0 2 ≤ 32 from (hI46 0 2).1)
    refine gv_callV hD rfl (As := []) (st := []) rfl (by decide) rfl rfl (gr_lV hws rfl) (Nat.le_of_ble_eq_true rfl) (gz_Ev_mono (d := 1) (by decide) E45) ?_
    show gv_X _ _ (40, [(0, .inr (.inr (some 0))), (1, .inl a1), (2, .inl a2)], [], gr_sh ++ ext, gr_h I46 J47)
    refine gv_run 3 true hD (pc' := 45) (lv' := [(0, .inr (.inr (some 0))), (1, .inl a1), (2, .inl a2)]) (st' := []) (h' := gz_up (gr_h I46 J47) 0 73 (.inl 0)) (C := (((True ∧ True) ∧ True) ∧ True)) rfl ⟨⟨⟨trivial, trivial⟩, trivial⟩, trivial⟩ ?_
    refine gr_st hI46 FI46 rfl rfl ⟨⟨by show 0 ≤ _; omega, by show _ ≤ 1001; omega⟩, trivial⟩ (fun I60 hI60 FI60 q61 p61 => ?_)
    have t62 := p61 0 71 (by decide)
    have t63 := p61 0 72 (by decide)
    have t64 := p61 0 69 (by decide)
    have t65 := p61 0 1 (by decide)
    have t66 := p61 0 68 (by decide)
    have t67 := p61 0 2 (by decide)
    have f68 := (show 0 ≤ I60 0 71 ∧ I60 0 71 ≤ 5 from (hI60 0 71).1)
    have f69 := (show 0 ≤ I60 0 72 ∧ I60 0 72 ≤ 1000 from (hI60 0 72).1)
    have f70 := (show 0 ≤ I60 0 73 ∧ I60 0 73 ≤ 1001 from (hI60 0 73).1)
    have f71 := (show 0 ≤ I60 0 69 ∧ I60 0 69 ≤ 1000 from (hI60 0 69).1)
    have f72 := (show 0 ≤ I60 0 1 ∧ I60 0 1 ≤ 8 from (hI60 0 1).1)
    have f73 := (show 0 ≤ I60 0 68 ∧ I60 0 68 ≤ 1000 from (hI60 0 68).1)
    have f74 := (show 0 ≤ I60 0 2 ∧ I60 0 2 ≤ 32 from (hI60 0 2).1)
    have w2_ := p61 0 0 (by decide)
    have yT : gs_TX β N9 (I60 57) := gs_TX_cp y0 (fun j hj => (p61 57 j (fun h => absurd h.1 (by decide))).trans ((q45.1.2 j (by omega)).trans (FI35 56 j rfl)))
    have yN : N9 = I60 0 69 := by omega
    refine gv_run 1 true hD (pc' := 46) (lv' := [(0, .inr (.inr (some 0))), (1, .inl a1), (2, .inl a2)]) (st' := [.inr (.inr (some 0))]) (h' := gr_h I60 J47) (C := (True ∧ True)) rfl ⟨trivial, trivial⟩ ?_
    obtain ⟨r75, h75, E75, P75⟩ := r_next_p (ws0 := ws0) (tb := tb) hws htb ext β N9 I60 J47 hI60 (by omega) yT yN
    obtain ⟨I76, J77, rfl, hI76, g75, k75, ⟨rfl, q75⟩⟩ := P75
    have w3_ := g75 0 0 rfl
    have aT0 : gr_ATp β N9 0 I76 J77 := by
      have h9 := q75.2.2.2.2.2
      rw [show I60 0 73 = 0 from by omega] at h9
      exact h9
    have aK0 : I76 0 71 = gs_k (gs_T β N9 0) := aT0.2.1
    have FI76 := gr_frt FI60 g75 rfl rfl
    have FJ77 := gr_fjt FJ47 k75 rfl rfl
    have t78 := g75 0 69 rfl
    have t79 := g75 0 1 rfl
    have t80 := g75 0 68 rfl
    have t81 := g75 0 2 rfl
    have f82 := (show 0 ≤ I76 0 71 ∧ I76 0 71 ≤ 5 from (hI76 0 71).1)
    have f83 := (show 0 ≤ I76 0 72 ∧ I76 0 72 ≤ 1000 from (hI76 0 72).1)
    have f84 := (show 0 ≤ I76 0 73 ∧ I76 0 73 ≤ 1001 from (hI76 0 73).1)
    have f85 := (show 0 ≤ I76 0 69 ∧ I76 0 69 ≤ 1000 from (hI76 0 69).1)
    have f86 := (show 0 ≤ I76 0 1 ∧ I76 0 1 ≤ 8 from (hI76 0 1).1)
    have f87 := (show 0 ≤ I76 0 68 ∧ I76 0 68 ≤ 1000 from (hI76 0 68).1)
    have f88 := (show 0 ≤ I76 0 2 ∧ I76 0 2 ≤ 32 from (hI76 0 2).1)
    refine gv_callV hD rfl (As := []) (st := []) rfl (by decide) rfl rfl (gr_lV hws rfl) (Nat.le_of_ble_eq_true rfl) (gz_Ev_mono (d := 10) (by decide) E75) ?_
    show gv_X _ _ (49, [(0, .inr (.inr (some 0))), (1, .inl a1), (2, .inl a2)], [], gr_sh ++ ext, gr_h I76 J77)
    have f89 := (show 0 ≤ I76 0 71 ∧ I76 0 71 ≤ 5 from (hI76 0 71).1)
    refine gv_run 3 true hD (pc' := 54) (lv' := [(0, .inr (.inr (some 0))), (1, .inl a1), (2, .inl a2)]) (st' := [.inl 1, .inl (I76 0 71)]) (h' := gr_h I76 J77) (C := (((True ∧ True) ∧ True) ∧ True)) rfl ⟨⟨⟨trivial, trivial⟩, trivial⟩, trivial⟩ ?_
    refine gv_icmp_eq (t := 59) hD rfl rfl ⟨⟨by omega, by omega⟩, ⟨by omega, by omega⟩⟩ (fun c90 => ?_) (fun c90 => ?_)
    · refine gv_run 4 true hD (pc' := 65) (lv' := [(3, .inr (.inl (J77 0 75))), (0, .inr (.inr (some 0))), (1, .inl a1), (2, .inl a2)]) (st' := [.inr (.inr (some 0))]) (h' := gr_h I76 J77) (C := ((((True ∧ True) ∧ True) ∧ True) ∧ True)) rfl ⟨⟨⟨⟨trivial, trivial⟩, trivial⟩, trivial⟩, trivial⟩ ?_
      obtain ⟨r91, h91, E91, P91⟩ := r_next_p (ws0 := ws0) (tb := tb) hws htb ext β N9 I76 J77 hI76 (by omega) aT0.1.1 aT0.1.2
      obtain ⟨I92, J93, rfl, hI92, g91, k91, ⟨rfl, q91⟩⟩ := P91
      have w4_ := g91 0 0 rfl
      have aK1 : I92 0 71 = gs_k (gs_T β N9 (gs_X β N9 0)) := by
        have h9 : gr_ATp β N9 (I76 0 73) I92 J93 := q91.2.2.2.2.2
        have h8 := h9.2.1
        rw [show I76 0 73 = gs_X β N9 0 from aT0.2.2.2.1] at h8
        exact h8
      have yA : gs_T β N9 0 = 1 := gs_k_1.mp (by omega)
      have FI92 := gr_frt FI76 g91 rfl rfl
      have FJ93 := gr_fjt FJ77 k91 rfl rfl
      have t94 := g91 0 69 rfl
      have t95 := g91 0 1 rfl
      have t96 := g91 0 68 rfl
      have t97 := g91 0 2 rfl
      have f98 := (show 0 ≤ I92 0 71 ∧ I92 0 71 ≤ 5 from (hI92 0 71).1)
      have f99 := (show 0 ≤ I92 0 72 ∧ I92 0 72 ≤ 1000 from (hI92 0 72).1)
      have f100 := (show 0 ≤ I92 0 73 ∧ I92 0 73 ≤ 1001 from (hI92 0 73).1)
      have f101 := (show 0 ≤ I92 0 69 ∧ I92 0 69 ≤ 1000 from (hI92 0 69).1)
      have f102 := (show 0 ≤ I92 0 1 ∧ I92 0 1 ≤ 8 from (hI92 0 1).1)
      have f103 := (show 0 ≤ I92 0 68 ∧ I92 0 68 ≤ 1000 from (hI92 0 68).1)
      have f104 := (show 0 ≤ I92 0 2 ∧ I92 0 2 ≤ 32 from (hI92 0 2).1)
      refine gv_callV hD rfl (As := []) (st := []) rfl (by decide) rfl rfl (gr_lV hws rfl) (Nat.le_of_ble_eq_true rfl) (gz_Ev_mono (d := 10) (by decide) E91) ?_
      show gv_X _ _ (68, [(3, .inr (.inl (J77 0 75))), (0, .inr (.inr (some 0))), (1, .inl a1), (2, .inl a2)], [], gr_sh ++ ext, gr_h I92 J93)
      have f105 := (show 0 ≤ I92 0 71 ∧ I92 0 71 ≤ 5 from (hI92 0 71).1)
      refine gv_run 2 true hD (pc' := 72) (lv' := [(3, .inr (.inl (J77 0 75))), (0, .inr (.inr (some 0))), (1, .inl a1), (2, .inl a2)]) (st' := [.inl (I92 0 71)]) (h' := gr_h I92 J93) (C := ((True ∧ True) ∧ True)) rfl ⟨⟨trivial, trivial⟩, trivial⟩ ?_
      refine gv_if_eq (t := 77) hD rfl rfl ⟨by omega, by omega⟩ (fun c106 => ?_) (fun c106 => ?_)
      · have yB : gs_T β N9 (gs_X β N9 0) = 4 := (gs_k_0 gs_T_p).mp (by omega)
        refine gv_run 1 true hD (pc' := 78) (lv' := [(3, .inr (.inl (J77 0 75))), (0, .inr (.inr (some 0))), (1, .inl a1), (2, .inl a2)]) (st' := [.inl a2]) (h' := gr_h I92 J93) (C := (True ∧ True)) rfl ⟨trivial, trivial⟩ ?_
        by_cases c107 : a2 = 0
        · refine gv_tabAt hD 0 rfl ⟨by omega, by omega⟩ c107 ⟨by decide, by decide⟩ rfl (t := 112) rfl ?_
          have f108 := (show 0 ≤ I92 0 1 ∧ I92 0 1 ≤ 8 from (hI92 0 1).1)
          refine gv_run 6 true hD (pc' := 122) (lv' := [(3, .inr (.inl (J77 0 75))), (0, .inr (.inr (some 0))), (1, .inl a1), (2, .inl a2)]) (st' := [.inr (.inl (J77 0 75)), .inl (I92 0 1), .inl 0, .inr (.inr (some 1))]) (h' := gr_h I92 J93) (C := ((((((True ∧ True) ∧ True) ∧ True) ∧ True) ∧ True) ∧ True)) rfl ⟨⟨⟨⟨⟨⟨trivial, trivial⟩, trivial⟩, trivial⟩, trivial⟩, trivial⟩, trivial⟩ ?_
          obtain ⟨r109, h109, E109, P109⟩ := r_find_1_p (ws0 := ws0) (tb := tb) hws htb ext I92 J93 hI92 0 (I92 0 1) (J77 0 75) ⟨by omega, by omega⟩ ⟨by omega, by omega⟩ (by omega)
          obtain ⟨rfl, ⟨z109, rfl, q109⟩⟩ := P109
          refine gv_callS hD rfl (As := [.inr (.inr (some 1)), .inl 0, .inl (I92 0 1), .inr (.inl (J77 0 75))]) (st := []) rfl (gr_lS hws rfl) (Nat.le_of_ble_eq_true rfl) (gz_Ev_mono (d := 1) (by decide) E109) ?_
          show gv_X _ _ (125, [(3, .inr (.inl (J77 0 75))), (0, .inr (.inr (some 0))), (1, .inl a1), (2, .inl a2)], [.inl z109], gr_sh ++ ext, gr_h I92 J93)
          exact gv_iret hD rfl ⟨I92, J93, rfl, hI92, FI92, FJ93, ⟨_, rfl, by omega, by omega, fun _ => ⟨by omega, by omega, ⟨fun _ => gs_nr_c (g := fun i => J 1 (Int.toNat (0 + i))) q109.2.2.2 aT0.2.2.2.2.2 yA yB (fun i => FJ93 1 _ rfl) (FI92 0 1 rfl), fun h8 => absurd h8 (by omega), fun h8 => absurd h8 (by omega), fun h8 => absurd h8 (by omega), fun h8 => absurd h8 (by omega), fun h8 => absurd h8 (by omega)⟩⟩, fun h9 => absurd e2_37 h9⟩⟩
        by_cases c110 : a2 = 1
        · refine gv_tabAt hD 1 rfl ⟨by omega, by omega⟩ c110 ⟨by decide, by decide⟩ rfl (t := 126) rfl ?_
          have f111 := (show 0 ≤ I92 0 2 ∧ I92 0 2 ≤ 32 from (hI92 0 2).1)
          refine gv_run 6 true hD (pc' := 136) (lv' := [(3, .inr (.inl (J77 0 75))), (0, .inr (.inr (some 0))), (1, .inl a1), (2, .inl a2)]) (st' := [.inr (.inl (J77 0 75)), .inl (I92 0 2), .inl 0, .inr (.inr (some 2))]) (h' := gr_h I92 J93) (C := ((((((True ∧ True) ∧ True) ∧ True) ∧ True) ∧ True) ∧ True)) rfl ⟨⟨⟨⟨⟨⟨trivial, trivial⟩, trivial⟩, trivial⟩, trivial⟩, trivial⟩, trivial⟩ ?_
          obtain ⟨r112, h112, E112, P112⟩ := r_find_2_p (ws0 := ws0) (tb := tb) hws htb ext I92 J93 hI92 0 (I92 0 2) (J77 0 75) ⟨by omega, by omega⟩ ⟨by omega, by omega⟩ (by omega)
          obtain ⟨rfl, ⟨z112, rfl, q112⟩⟩ := P112
          refine gv_callS hD rfl (As := [.inr (.inr (some 2)), .inl 0, .inl (I92 0 2), .inr (.inl (J77 0 75))]) (st := []) rfl (gr_lS hws rfl) (Nat.le_of_ble_eq_true rfl) (gz_Ev_mono (d := 1) (by decide) E112) ?_
          show gv_X _ _ (139, [(3, .inr (.inl (J77 0 75))), (0, .inr (.inr (some 0))), (1, .inl a1), (2, .inl a2)], [.inl z112], gr_sh ++ ext, gr_h I92 J93)
          exact gv_iret hD rfl ⟨I92, J93, rfl, hI92, FI92, FJ93, ⟨_, rfl, by omega, by omega, fun _ => ⟨by omega, by omega, ⟨fun h8 => absurd h8 (by omega), fun _ => gs_nr_c (g := fun i => J 2 (Int.toNat (0 + i))) q112.2.2.2 aT0.2.2.2.2.2 yA yB (fun i => FJ93 2 _ rfl) (FI92 0 2 rfl), fun h8 => absurd h8 (by omega), fun h8 => absurd h8 (by omega), fun h8 => absurd h8 (by omega), fun h8 => absurd h8 (by omega)⟩⟩, fun h9 => absurd e2_37 h9⟩⟩
        by_cases c113 : a2 = 2
        · refine gv_tabAt hD 2 rfl ⟨by omega, by omega⟩ c113 ⟨by decide, by decide⟩ rfl (t := 140) rfl ?_
          have f114 := (show 0 ≤ I92 0 3 ∧ I92 0 3 ≤ 96 from (hI92 0 3).1)
          refine gv_run 6 true hD (pc' := 150) (lv' := [(3, .inr (.inl (J77 0 75))), (0, .inr (.inr (some 0))), (1, .inl a1), (2, .inl a2)]) (st' := [.inr (.inl (J77 0 75)), .inl (I92 0 3), .inl 0, .inr (.inr (some 3))]) (h' := gr_h I92 J93) (C := ((((((True ∧ True) ∧ True) ∧ True) ∧ True) ∧ True) ∧ True)) rfl ⟨⟨⟨⟨⟨⟨trivial, trivial⟩, trivial⟩, trivial⟩, trivial⟩, trivial⟩, trivial⟩ ?_
          obtain ⟨r115, h115, E115, P115⟩ := r_find_3_p (ws0 := ws0) (tb := tb) hws htb ext I92 J93 hI92 0 (I92 0 3) (J77 0 75) ⟨by omega, by omega⟩ ⟨by omega, by omega⟩ (by omega)
          obtain ⟨rfl, ⟨z115, rfl, q115⟩⟩ := P115
          refine gv_callS hD rfl (As := [.inr (.inr (some 3)), .inl 0, .inl (I92 0 3), .inr (.inl (J77 0 75))]) (st := []) rfl (gr_lS hws rfl) (Nat.le_of_ble_eq_true rfl) (gz_Ev_mono (d := 1) (by decide) E115) ?_
          show gv_X _ _ (153, [(3, .inr (.inl (J77 0 75))), (0, .inr (.inr (some 0))), (1, .inl a1), (2, .inl a2)], [.inl z115], gr_sh ++ ext, gr_h I92 J93)
          exact gv_iret hD rfl ⟨I92, J93, rfl, hI92, FI92, FJ93, ⟨_, rfl, by omega, by omega, fun _ => ⟨by omega, by omega, ⟨fun h8 => absurd h8 (by omega), fun h8 => absurd h8 (by omega), fun _ => gs_nr_c (g := fun i => J 3 (Int.toNat (0 + i))) q115.2.2.2 aT0.2.2.2.2.2 yA yB (fun i => FJ93 3 _ rfl) (FI92 0 3 rfl), fun h8 => absurd h8 (by omega), fun h8 => absurd h8 (by omega), fun h8 => absurd h8 (by omega)⟩⟩, fun h9 => absurd e2_37 h9⟩⟩
        by_cases c116 : a2 = 3
        · refine gv_tabAt hD 3 rfl ⟨by omega, by omega⟩ c116 ⟨by decide, by decide⟩ rfl (t := 154) rfl ?_
          refine gv_run 7 true hD (pc' := 166) (lv' := [(3, .inr (.inl (J77 0 75))), (0, .inr (.inr (some 0))), (1, .inl a1), (2, .inl a2)]) (st' := [.inr (.inr (some 13)), .inl (8 * a1), .inr (.inr (some 20))]) (h' := gr_h I92 J93) (C := (((((((True ∧ True) ∧ True) ∧ True) ∧ True) ∧ True) ∧ True) ∧ True)) rfl ⟨⟨⟨⟨⟨⟨⟨trivial, trivial⟩, trivial⟩, trivial⟩, trivial⟩, trivial⟩, trivial⟩, trivial⟩ ?_
          have f117 := (show 0 ≤ I92 13 (Int.toNat a1) ∧ I92 13 (Int.toNat a1) ≤ 8 from (hI92 13 (Int.toNat a1)).1)
          refine gv_run 2 true hD (pc' := 168) (lv' := [(3, .inr (.inl (J77 0 75))), (0, .inr (.inr (some 0))), (1, .inl a1), (2, .inl a2)]) (st' := [.inl (I92 13 (Int.toNat a1)), .inl (8 * a1), .inr (.inr (some 20))]) (h' := gr_h I92 J93) (C := ((True ∧ True) ∧ (0 ≤ a1 ∧ a1 < ((8 : Nat) : Int)))) rfl ⟨⟨trivial, trivial⟩, ⟨by omega, by omega⟩⟩ ?_
          refine gv_run 1 true hD (pc' := 169) (lv' := [(3, .inr (.inl (J77 0 75))), (0, .inr (.inr (some 0))), (1, .inl a1), (2, .inl a2)]) (st' := [.inr (.inl (J77 0 75)), .inl (I92 13 (Int.toNat a1)), .inl (8 * a1), .inr (.inr (some 20))]) (h' := gr_h I92 J93) (C := (True ∧ True)) rfl ⟨trivial, trivial⟩ ?_
          obtain ⟨r118, h118, E118, P118⟩ := r_find_20_p (ws0 := ws0) (tb := tb) hws htb ext I92 J93 hI92 (8 * a1) ((I92 13 (Int.toNat a1))) (J77 0 75) ⟨by omega, by omega⟩ ⟨by omega, by omega⟩ (by omega)
          obtain ⟨rfl, ⟨z118, rfl, q118⟩⟩ := P118
          refine gv_callS hD rfl (As := [.inr (.inr (some 20)), .inl (8 * a1), .inl (I92 13 (Int.toNat a1)), .inr (.inl (J77 0 75))]) (st := []) rfl (gr_lS hws rfl) (Nat.le_of_ble_eq_true rfl) (gz_Ev_mono (d := 1) (by decide) E118) ?_
          show gv_X _ _ (172, [(3, .inr (.inl (J77 0 75))), (0, .inr (.inr (some 0))), (1, .inl a1), (2, .inl a2)], [.inl z118], gr_sh ++ ext, gr_h I92 J93)
          exact gv_iret hD rfl ⟨I92, J93, rfl, hI92, FI92, FJ93, ⟨_, rfl, by omega, by omega, fun _ => ⟨by omega, by omega, ⟨fun h8 => absurd h8 (by omega), fun h8 => absurd h8 (by omega), fun h8 => absurd h8 (by omega), fun _ => gs_nr_c (g := fun i => J 20 (Int.toNat ((8 * a1) + i))) q118.2.2.2 aT0.2.2.2.2.2 yA yB (fun i => FJ93 20 _ rfl) (FI92 13 (Int.toNat a1) rfl), fun h8 => absurd h8 (by omega), fun h8 => absurd h8 (by omega)⟩⟩, fun h9 => absurd e2_37 h9⟩⟩
        by_cases c119 : a2 = 4
        · refine gv_tabAt hD 4 rfl ⟨by omega, by omega⟩ c119 ⟨by decide, by decide⟩ rfl (t := 173) rfl ?_
          refine gv_run 7 true hD (pc' := 185) (lv' := [(3, .inr (.inl (J77 0 75))), (0, .inr (.inr (some 0))), (1, .inl a1), (2, .inl a2)]) (st' := [.inr (.inr (some 14)), .inl (48 * a1), .inr (.inr (some 21))]) (h' := gr_h I92 J93) (C := (((((((True ∧ True) ∧ True) ∧ True) ∧ True) ∧ True) ∧ True) ∧ True)) rfl ⟨⟨⟨⟨⟨⟨⟨trivial, trivial⟩, trivial⟩, trivial⟩, trivial⟩, trivial⟩, trivial⟩, trivial⟩ ?_
          have f120 := (show 0 ≤ I92 14 (Int.toNat a1) ∧ I92 14 (Int.toNat a1) ≤ 48 from (hI92 14 (Int.toNat a1)).1)
          refine gv_run 2 true hD (pc' := 187) (lv' := [(3, .inr (.inl (J77 0 75))), (0, .inr (.inr (some 0))), (1, .inl a1), (2, .inl a2)]) (st' := [.inl (I92 14 (Int.toNat a1)), .inl (48 * a1), .inr (.inr (some 21))]) (h' := gr_h I92 J93) (C := ((True ∧ True) ∧ (0 ≤ a1 ∧ a1 < ((8 : Nat) : Int)))) rfl ⟨⟨trivial, trivial⟩, ⟨by omega, by omega⟩⟩ ?_
          refine gv_run 1 true hD (pc' := 188) (lv' := [(3, .inr (.inl (J77 0 75))), (0, .inr (.inr (some 0))), (1, .inl a1), (2, .inl a2)]) (st' := [.inr (.inl (J77 0 75)), .inl (I92 14 (Int.toNat a1)), .inl (48 * a1), .inr (.inr (some 21))]) (h' := gr_h I92 J93) (C := (True ∧ True)) rfl ⟨trivial, trivial⟩ ?_
          obtain ⟨r121, h121, E121, P121⟩ := r_find_21_p (ws0 := ws0) (tb := tb) hws htb ext I92 J93 hI92 (48 * a1) ((I92 14 (Int.toNat a1))) (J77 0 75) ⟨by omega, by omega⟩ ⟨by omega, by omega⟩ (by omega)
          obtain ⟨rfl, ⟨z121, rfl, q121⟩⟩ := P121
          refine gv_callS hD rfl (As := [.inr (.inr (some 21)), .inl (48 * a1), .inl (I92 14 (Int.toNat a1)), .inr (.inl (J77 0 75))]) (st := []) rfl (gr_lS hws rfl) (Nat.le_of_ble_eq_true rfl) (gz_Ev_mono (d := 1) (by decide) E121) ?_
          show gv_X _ _ (191, [(3, .inr (.inl (J77 0 75))), (0, .inr (.inr (some 0))), (1, .inl a1), (2, .inl a2)], [.inl z121], gr_sh ++ ext, gr_h I92 J93)
          exact gv_iret hD rfl ⟨I92, J93, rfl, hI92, FI92, FJ93, ⟨_, rfl, by omega, by omega, fun _ => ⟨by omega, by omega, ⟨fun h8 => absurd h8 (by omega), fun h8 => absurd h8 (by omega), fun h8 => absurd h8 (by omega), fun h8 => absurd h8 (by omega), fun _ => gs_nr_c (g := fun i => J 21 (Int.toNat ((48 * a1) + i))) q121.2.2.2 aT0.2.2.2.2.2 yA yB (fun i => FJ93 21 _ rfl) (FI92 14 (Int.toNat a1) rfl), fun h8 => absurd h8 (by omega)⟩⟩, fun h9 => absurd e2_37 h9⟩⟩
        refine gv_tabOut hD rfl ⟨by omega, by omega⟩ (by omega) (t := 192) rfl ?_
        refine gv_run 7 true hD (pc' := 204) (lv' := [(3, .inr (.inl (J77 0 75))), (0, .inr (.inr (some 0))), (1, .inl a1), (2, .inl a2)]) (st' := [.inr (.inr (some 17)), .inl (24 * a1), .inr (.inr (some 23))]) (h' := gr_h I92 J93) (C := (((((((True ∧ True) ∧ True) ∧ True) ∧ True) ∧ True) ∧ True) ∧ True)) rfl ⟨⟨⟨⟨⟨⟨⟨trivial, trivial⟩, trivial⟩, trivial⟩, trivial⟩, trivial⟩, trivial⟩, trivial⟩ ?_
        have f122 := (show 0 ≤ I92 17 (Int.toNat a1) ∧ I92 17 (Int.toNat a1) ≤ 24 from (hI92 17 (Int.toNat a1)).1)
        refine gv_run 2 true hD (pc' := 206) (lv' := [(3, .inr (.inl (J77 0 75))), (0, .inr (.inr (some 0))), (1, .inl a1), (2, .inl a2)]) (st' := [.inl (I92 17 (Int.toNat a1)), .inl (24 * a1), .inr (.inr (some 23))]) (h' := gr_h I92 J93) (C := ((True ∧ True) ∧ (0 ≤ a1 ∧ a1 < ((8 : Nat) : Int)))) rfl ⟨⟨trivial, trivial⟩, ⟨by omega, by omega⟩⟩ ?_
        refine gv_run 1 true hD (pc' := 207) (lv' := [(3, .inr (.inl (J77 0 75))), (0, .inr (.inr (some 0))), (1, .inl a1), (2, .inl a2)]) (st' := [.inr (.inl (J77 0 75)), .inl (I92 17 (Int.toNat a1)), .inl (24 * a1), .inr (.inr (some 23))]) (h' := gr_h I92 J93) (C := (True ∧ True)) rfl ⟨trivial, trivial⟩ ?_
        obtain ⟨r123, h123, E123, P123⟩ := r_find_23_p (ws0 := ws0) (tb := tb) hws htb ext I92 J93 hI92 (24 * a1) ((I92 17 (Int.toNat a1))) (J77 0 75) ⟨by omega, by omega⟩ ⟨by omega, by omega⟩ (by omega)
        obtain ⟨rfl, ⟨z123, rfl, q123⟩⟩ := P123
        refine gv_callS hD rfl (As := [.inr (.inr (some 23)), .inl (24 * a1), .inl (I92 17 (Int.toNat a1)), .inr (.inl (J77 0 75))]) (st := []) rfl (gr_lS hws rfl) (Nat.le_of_ble_eq_true rfl) (gz_Ev_mono (d := 1) (by decide) E123) ?_
        show gv_X _ _ (210, [(3, .inr (.inl (J77 0 75))), (0, .inr (.inr (some 0))), (1, .inl a1), (2, .inl a2)], [.inl z123], gr_sh ++ ext, gr_h I92 J93)
        exact gv_iret hD rfl ⟨I92, J93, rfl, hI92, FI92, FJ93, ⟨_, rfl, by omega, by omega, fun _ => ⟨by omega, by omega, ⟨fun h8 => absurd h8 (by omega), fun h8 => absurd h8 (by omega), fun h8 => absurd h8 (by omega), fun h8 => absurd h8 (by omega), fun h8 => absurd h8 (by omega), fun _ => gs_nr_c (g := fun i => J 23 (Int.toNat ((24 * a1) + i))) q123.2.2.2 aT0.2.2.2.2.2 yA yB (fun i => FJ93 23 _ rfl) (FI92 17 (Int.toNat a1) rfl)⟩⟩, fun h9 => absurd e2_37 h9⟩⟩
      · refine gv_run 1 true hD (pc' := 76) (lv' := [(3, .inr (.inl (J77 0 75))), (0, .inr (.inr (some 0))), (1, .inl a1), (2, .inl a2)]) (st' := [.inl (-1)]) (h' := gr_h I92 J93) (C := (True ∧ True)) rfl ⟨trivial, trivial⟩ ?_
        exact gv_iret hD rfl ⟨I92, J93, rfl, hI92, FI92, FJ93, ⟨_, rfl, by omega, by omega, fun _ => ⟨by omega, by omega, gs_NR_n (fun h8 => by have h7 := (gs_k_0 (gs_T_p (β := β) (N := N9) (p := gs_X β N9 0))).mpr h8.2; omega) rfl⟩, fun h9 => absurd e2_37 h9⟩⟩
    · refine gv_run 1 true hD (pc' := 58) (lv' := [(0, .inr (.inr (some 0))), (1, .inl a1), (2, .inl a2)]) (st' := [.inl (-1)]) (h' := gr_h I76 J77) (C := (True ∧ True)) rfl ⟨trivial, trivial⟩ ?_
      exact gv_iret hD rfl ⟨I76, J77, rfl, hI76, FI76, FJ77, ⟨_, rfl, by omega, by omega, fun _ => ⟨by omega, by omega, gs_NR_n (fun h8 => by have h7 := gs_k_1.mpr h8.1; omega) rfl⟩, fun h9 => absurd e2_37 h9⟩⟩
  refine gv_run 3 true hD (pc' := 5) (lv' := [(0, .inr (.inr (some 0))), (1, .inl a1), (2, .inl a2)]) (st' := []) (h' := gz_up (gr_h I J) 0 0 (.inl 0)) (C := (((True ∧ True) ∧ True) ∧ True)) rfl ⟨⟨⟨trivial, trivial⟩, trivial⟩, trivial⟩ ?_
  refine gr_st hI FI rfl rfl ⟨⟨by show 0 ≤ _; omega, by show _ ≤ 2; omega⟩, trivial⟩ (fun I124 hI124 FI124 q125 p125 => ?_)
  have t126 := p125 0 71 (by decide)
  have t127 := p125 0 72 (by decide)
  have t128 := p125 0 73 (by decide)
  have t129 := p125 0 69 (by decide)
  have t130 := p125 0 1 (by decide)
  have t131 := p125 0 68 (by decide)
  have t132 := p125 0 2 (by decide)
  have f133 := (show 0 ≤ I124 0 71 ∧ I124 0 71 ≤ 5 from (hI124 0 71).1)
  have f134 := (show 0 ≤ I124 0 72 ∧ I124 0 72 ≤ 1000 from (hI124 0 72).1)
  have f135 := (show 0 ≤ I124 0 73 ∧ I124 0 73 ≤ 1001 from (hI124 0 73).1)
  have f136 := (show 0 ≤ I124 0 69 ∧ I124 0 69 ≤ 1000 from (hI124 0 69).1)
  have f137 := (show 0 ≤ I124 0 1 ∧ I124 0 1 ≤ 8 from (hI124 0 1).1)
  have f138 := (show 0 ≤ I124 0 68 ∧ I124 0 68 ≤ 1000 from (hI124 0 68).1)
  have f139 := (show 0 ≤ I124 0 2 ∧ I124 0 2 ≤ 32 from (hI124 0 2).1)
  refine gv_run 1 true hD (pc' := 6) (lv' := [(0, .inr (.inr (some 0))), (1, .inl a1), (2, .inl a2)]) (st' := [.inl a2]) (h' := gr_h I124 J) (C := (True ∧ True)) rfl ⟨trivial, trivial⟩ ?_
  refine gv_if_lt (t := 31) hD rfl rfl ⟨by omega, by omega⟩ (fun c140 => ?_) (fun c140 => ?_)
  · refine gv_pick [0] rfl ?_
    exact L31 I124 J hI124 FI124 FJ (by omega)
  · refine gv_run 2 true hD (pc' := 11) (lv' := [(0, .inr (.inr (some 0))), (1, .inl a1), (2, .inl a2)]) (st' := [.inl 5, .inl a2]) (h' := gr_h I124 J) (C := ((True ∧ True) ∧ True)) rfl ⟨⟨trivial, trivial⟩, trivial⟩ ?_
    refine gv_icmp_gt (t := 31) hD rfl rfl ⟨⟨by omega, by omega⟩, ⟨by omega, by omega⟩⟩ (fun c141 => ?_) (fun c141 => ?_)
    · refine gv_pick [0] rfl ?_
      exact L31 I124 J hI124 FI124 FJ (by omega)
    · refine gv_run 2 true hD (pc' := 16) (lv' := [(0, .inr (.inr (some 0))), (1, .inl a1), (2, .inl a2)]) (st' := [.inl 2, .inl a2]) (h' := gr_h I124 J) (C := ((True ∧ True) ∧ True)) rfl ⟨⟨trivial, trivial⟩, trivial⟩ ?_
      refine gv_icmp_le (t := 36) hD rfl rfl ⟨⟨by omega, by omega⟩, ⟨by omega, by omega⟩⟩ (fun c142 => ?_) (fun c142 => ?_)
      · exact L36 I124 J hI124 FI124 FJ (by omega) (by omega)
      · refine gv_run 1 true hD (pc' := 20) (lv' := [(0, .inr (.inr (some 0))), (1, .inl a1), (2, .inl a2)]) (st' := [.inl a1]) (h' := gr_h I124 J) (C := (True ∧ True)) rfl ⟨trivial, trivial⟩ ?_
        refine gv_if_lt (t := 31) hD rfl rfl ⟨by omega, by omega⟩ (fun c143 => ?_) (fun c143 => ?_)
        · refine gv_pick [0] rfl ?_
          exact L31 I124 J hI124 FI124 FJ (by omega)
        · have f144 := (show 0 ≤ I124 0 1 ∧ I124 0 1 ≤ 8 from (hI124 0 1).1)
          refine gv_run 3 true hD (pc' := 28) (lv' := [(0, .inr (.inr (some 0))), (1, .inl a1), (2, .inl a2)]) (st' := [.inl (I124 0 1), .inl a1]) (h' := gr_h I124 J) (C := (((True ∧ True) ∧ True) ∧ True)) rfl ⟨⟨⟨trivial, trivial⟩, trivial⟩, trivial⟩ ?_
          refine gv_icmp_lt (t := 36) hD rfl rfl ⟨⟨by omega, by omega⟩, ⟨by omega, by omega⟩⟩ (fun c145 => ?_) (fun c145 => ?_)
          · exact L36 I124 J hI124 FI124 FJ (by omega) (by omega)
          · refine gv_pick [0] rfl ?_
            exact L31 I124 J hI124 FI124 FJ (by omega)
set_option maxHeartbeats 4000000 in
set_option maxRecDepth 100000 in
theorem q_number_z {ws0 : List Cond} {tb : String → gz_T} (hws : ∀ w ∈ gr_ws, w ∈ ws0) (htb : tb RX13 = gr_T) (ext : gz_Sh) {n : Nat} {I : gr_I} {J : gr_J} (h : gq_St n I) (hn : n < 64) (a1 : Int) (a2 : Int) (ha1 : (-2147483648) ≤ a1 ∧ a1 ≤ 2147483647) (ha2 : (-2147483648) ≤ a2 ∧ a2 ≤ 2147483647) (β : Int → Int) (N9 : Int) (y0 : gs_TX β N9 (I 56)) (y1 : N9 = I 0 68) : ∃ r h', gz_Ev ws0 tb 1000 (yX13_number, cX13_number, 5, (some .int)) [.inr (.inr (some 0)), .inl a1, .inl a2] (gr_sh ++ ext) (gr_h I J) r (gr_sh ++ ext) h' 0 0 ∧ (∃ (I' : gr_I) (J' : gr_J), h' = gr_h I' J' ∧ gq_St (n + 1) I' ∧ (gq_T I J I' J' ∧ ∀ k, I' 56 k = I 56 k) ∧ (∃ z : Int, r = some (.inl z) ∧ (-2147483648) ≤ z ∧ z ≤ 2147483647 ∧ (((0 ≤ a2 ∧ a2 ≤ 5) ∧ (a2 ≤ 2 ∨ (0 ≤ a1 ∧ a1 < I 0 1))) → I' 0 68 = 0 ∧ I' 0 0 = 0 ∧ gs_NR β N9 a1 a2 I J z) ∧ (¬ ((0 ≤ a2 ∧ a2 ≤ 5) ∧ (a2 ≤ 2 ∨ (0 ≤ a1 ∧ a1 < I 0 1))) → I' 0 68 = I 0 68 ∧ I' 0 0 = 1))) := by
  obtain ⟨⟨hI, KTM, KVF, KGR, KTO, KFM, KFV, KPL, KOX⟩, KLE, b1, b2, b3, b4, b5⟩ := h
  have rt := (show 0 ≤ I 0 68 ∧ I 0 68 ≤ 1000 from (hI 0 68).1)
  obtain ⟨r, h1, E, P⟩ := r_number_z (ws0 := ws0) (tb := tb) hws htb ext β N9 I J hI a1 a2 ha1 ha2 y0 y1
  obtain ⟨I', J', e1, hI', F, G, ⟨z, hr, q⟩⟩ := P
  have KTM' := gr_TM_fr KTM (fun k => F 52 k rfl) (fun k => F 53 k rfl) (fun k => F 54 k rfl) (F 0 64 rfl)
  have KVF' := gr_VF_fr KVF (fun k => F 14 k rfl) (fun k => F 13 k rfl)
  have KGR' := gr_GR_fr KGR (fun k => F 19 k rfl) (fun k => F 18 k rfl) (fun k => F 36 k rfl) (fun k => F 41 k rfl) (fun k => F 42 k rfl) (fun k => F 43 k rfl) (fun k => F 45 k rfl) (fun k => F 46 k rfl) (fun k => F 47 k rfl) (fun k => F 6 k rfl) (fun k => F 7 k rfl) (fun k => F 8 k rfl) (F 0 3 rfl)
  have KTO' := gr_TO_fr KTO (fun k => F 52 k rfl) (fun k => F 53 k rfl) (fun k => F 54 k rfl) (fun k => F 55 k rfl) (fun k => F 6 k rfl) (F 0 64 rfl) (F 0 3 rfl)
  have KFM' := gr_FM_fr KFM (fun k => F 10 k rfl) (fun k => F 55 k rfl) (fun k => F 52 k rfl) (fun k => F 53 k rfl) (fun k => F 54 k rfl) (F 0 64 rfl) (F 0 3 rfl)
  have KFV' := gr_FV_fr KFV (fun k => F 87 k rfl) (fun k => F 88 k rfl) (fun k => F 104 k rfl) (fun k => F 90 k rfl) (fun k => F 91 k rfl) (fun k => F 92 k rfl) (fun k => F 94 k rfl) (fun k => F 95 k rfl) (fun k => F 97 k rfl) (fun k => F 98 k rfl) (fun k => F 19 k rfl) (fun k => F 18 k rfl) (fun k => F 41 k rfl) (fun k => F 6 k rfl) (fun k => F 99 k rfl) (fun k => F 105 k rfl) (fun k => F 107 k rfl) (fun k => F 108 k rfl) (fun k => F 110 k rfl) (fun k => F 111 k rfl) (F 0 157 rfl) (F 0 158 rfl) (F 0 177 rfl) (F 0 186 rfl) (F 0 159 rfl) hI
  have KPL' := gr_PL_fr KPL (fun k => F 114 k rfl) (fun k => F 115 k rfl) (fun k => F 6 k rfl) (F 0 3 rfl)
  have KOX' := gr_OX_fr KOX (fun k => F 121 k rfl) (fun k => F 120 k rfl)
  have e59 := F 0 59 rfl
  have e42 := F 0 42 rfl
  have e64 := F 0 64 rfl
  have e100 := F 0 100 rfl
  have eC := F 0 206 rfl
  have KLE' : gr_LE (20 * ((n + 1 : Nat) : Int)) I' := gr_LE_tp KLE (fun k => F 19 k rfl) (by omega)
  exact ⟨r, h1, gz_Ev_mono (d := 11) (by decide) E, I', J', e1, ⟨⟨hI', KTM', KVF', KGR', KTO', KFM', KFV', KPL', KOX'⟩, KLE', by omega, by omega, by omega, by omega, by omega⟩, ⟨gq_Tof F G (by decide) (by decide), fun k => F 56 k rfl⟩, ⟨z, hr, by omega, by omega, q.2.2.1, q.2.2.2⟩⟩
set_option maxHeartbeats 1000000 in
theorem gp_numberx {ws0 : List Cond} {tb : String → gz_T} (hws : gc_Ws ws0) (htb : gc_tbs tb) (hwr : ∀ w ∈ gr_ws, w ∈ ws0) (htr : tb RX13 = gr_T) (ext : gz_Sh) {n a s : Nat} {sh : gz_Sh} {ro : Nat → Nat} {I : gr_I} {J : gr_J} {A : gc_A} {Ir : gr_I} {Jr : gr_J} (h : gp_P n a s sh ro I J A Ir Jr) (hn : n < 64) (a1 : Int) (a2 : Int) (ra1 : (-2147483648) ≤ a1 ∧ a1 ≤ 2147483647) (ra2 : (-2147483648) ≤ a2 ∧ a2 ≤ 2147483647) : ∃ (z : Int) (Ir' : gr_I) (Jr' : gr_J), gz_Ev ws0 tb 1000 (yX13_number, cX13_number, 5, (some .int)) [.inr (.inr (some 0)), .inl a1, .inl a2] (gr_sh ++ ext) (gr_h Ir Jr) (some (.inl z)) (gr_sh ++ ext) (gr_h Ir' Jr') 0 0 ∧ gr_Inv Ir' ∧ ((-2147483648) ≤ z ∧ z ≤ 2147483647) ∧ ((∃ (I' : gr_I) (J' : gr_J), gz_Ev ws0 tb 100 (yX12_number, cX12_number, 6, (some .int)) [.inr (.inr (some 0)), .inl a1, .inl a2] sh (gc_h sh I J A) (some (.inl z)) sh (gc_h sh I' J' A) 0 0 ∧ Ir' 0 0 = 0 ∧ gp_P (n + 1) a s sh ro I' J' A Ir' Jr') ∨ (gk_T ws0 tb (yX12_number, cX12_number, 6, (some .int)) [.inr (.inr (some 0)), .inl a1, .inl a2] sh I J A px_IAE ∧ Ir' 0 0 = 1 ∧ gp_P (n + 1) (a + 1) (s + 6) sh ro I J A Ir' Jr')) := by
  have hs := h.1.1
  have hc := h.1.2.1
  have hR := h.2.2.1
  have e1 : I 8 1 = Ir 0 1 := hR.2.2.2.1.1
  have e3 := h.2.2.2.1
  have h6 := h.2.2.2.2
  have i3 := gk_tp hs
  obtain ⟨rr, h', E, Ir', Jr', rfl, q, t, z, rfl, l1, l2, P1, P2⟩ := q_number_z hwr htr ext h.2.1.1 hn a1 a2 ra1 ra2 (gp_tx (I 23 1) (I 24)) (I 23 1) (gp_TX2 (fun k hk => (h6 k hk).symm)) e3
  by_cases c : (0 ≤ a2 ∧ a2 ≤ 5) ∧ (a2 ≤ 2 ∨ (0 ≤ a1 ∧ a1 < Ir 0 1))
  · obtain ⟨u1, u2, u3⟩ := P1 c
    have H : ∃ (I' : gr_I) (J' : gr_J), gz_Ev ws0 tb 100 (yX12_number, cX12_number, 6, (some .int)) [.inr (.inr (some 0)), .inl a1, .inl a2] sh (gc_h sh I J A) (some (.inl z)) sh (gc_h sh I' J' A) 0 0 ∧ gh_K sh ro A I J I' J' 0 := by
      rcases (show a2 = 0 ∨ a2 = 1 ∨ a2 = 2 ∨ a2 = 3 ∨ a2 = 4 ∨ a2 = 5 by omega) with c0 | c0 | c0 | c0 | c0 | c0
      · obtain ⟨z9, I', J', E9, ez, K9⟩ := hh_number_0_z hws htb hs hc a1 a2 ra1 ⟨by omega, by omega⟩ (gp_tx (I 23 1) (I 24)) (I 23 1) (gp_TX _ _) rfl
        have hz : z9 = z := ez.trans ((gs_nz_GN hR.2.2.2.1).trans (u3.1 c0).symm)
        rw [hz] at E9
        exact ⟨I', J', E9, K9⟩
      · obtain ⟨z9, I', J', E9, ez, K9⟩ := hh_number_1_z hws htb hs hc a1 a2 ra1 ⟨by omega, by omega⟩ (gp_tx (I 23 1) (I 24)) (I 23 1) (gp_TX _ _) rfl
        have hz : z9 = z := ez.trans ((gs_nz_GN hR.1).trans (u3.2.1 c0).symm)
        rw [hz] at E9
        exact ⟨I', J', E9, K9⟩
      · obtain ⟨z9, I', J', E9, ez, K9⟩ := hh_number_2_z hws htb hs hc a1 a2 ra1 ⟨by omega, by omega⟩ (gp_tx (I 23 1) (I 24)) (I 23 1) (gp_TX _ _) rfl
        have hz : z9 = z := ez.trans ((gs_nz_GN hR.2.1).trans (u3.2.2.1 c0).symm)
        rw [hz] at E9
        exact ⟨I', J', E9, K9⟩
      · obtain ⟨t9, z9, I', J', ht, E9, ez, K9⟩ := hh_number_3_z hws htb hs hc a1 a2 ⟨by omega, by omega⟩ ⟨by omega, by omega⟩ (gp_tx (I 23 1) (I 24)) (I 23 1) (gp_TX _ _) rfl
        have RT := hR.2.2.2.2.2.2.2.1 (Int.toNat a1) t9 (by omega) ht
        rw [show ((Int.toNat a1 : Nat) : Int) = a1 from by omega] at RT
        have hz : z9 = z := ez.trans ((gs_nz_NA RT.1.1 RT.1.2).trans (u3.2.2.2.1 c0).symm)
        rw [hz] at E9
        exact ⟨I', J', E9, K9⟩
      · obtain ⟨t9, z9, I', J', ht, E9, ez, K9⟩ := hh_number_4_z hws htb hs hc a1 a2 ⟨by omega, by omega⟩ ⟨by omega, by omega⟩ (gp_tx (I 23 1) (I 24)) (I 23 1) (gp_TX _ _) rfl
        have RT := hR.2.2.2.2.2.2.2.1 (Int.toNat a1) t9 (by omega) ht
        rw [show ((Int.toNat a1 : Nat) : Int) = a1 from by omega] at RT
        have hz : z9 = z := ez.trans ((gs_nz_NA RT.2.1.1.1 RT.2.1.1.2).trans (u3.2.2.2.2.1 c0).symm)
        rw [hz] at E9
        exact ⟨I', J', E9, K9⟩
      · obtain ⟨t9, z9, I', J', ht, E9, ez, K9⟩ := hh_number_5_z hws htb hs hc a1 a2 ⟨by omega, by omega⟩ ⟨by omega, by omega⟩ (gp_tx (I 23 1) (I 24)) (I 23 1) (gp_TX _ _) rfl
        have RT := hR.2.2.2.2.2.2.2.1 (Int.toNat a1) t9 (by omega) ht
        rw [show ((Int.toNat a1 : Nat) : Int) = a1 from by omega] at RT
        have hz : z9 = z := ez.trans ((gs_nz_NA RT.2.2.2.2.1.1.1 RT.2.2.2.2.1.1.2).trans (u3.2.2.2.2.2 c0).symm)
        rw [hz] at E9
        exact ⟨I', J', E9, K9⟩
    obtain ⟨I', J', E9, K9⟩ := H
    exact ⟨_, Ir', Jr', E, q.1.1, ⟨l1, l2⟩, Or.inl ⟨I', J', E9, u2, gp_kp h K9 (by omega) q t u1⟩⟩
  · obtain ⟨u1, u2⟩ := P2 c
    rcases gk_number hws htb hs hc a1 a2 ra1 ra2 with ⟨c9, _⟩ | ⟨c9, T9⟩
    · exact absurd c9 (by omega)
    · exact ⟨_, Ir', Jr', E, q.1.1, ⟨l1, l2⟩, Or.inr ⟨T9, u2, gp_th h q t u1⟩⟩
