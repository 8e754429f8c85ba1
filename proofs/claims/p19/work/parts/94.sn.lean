/-! PARITY: SOUND -/
def gs_ctx (β : Int → Int) (N : Int) (I : gr_I) (J : gr_J) (b p : Int) : Int :=
  if gs_T β N p = 3 then gs_X β N p else if gs_T β N p = 1 then (if gs_lt J 22 (16 * I 0 6) (I 15 (Int.toNat (I 0 6))) (gs_rn β N p) < 0 then -1 - gs_A β N p else gs_X β N p) else if b = 0 then -1 - gs_A β N p else if gs_T β N p = 35 then gs_X β N p else -1 - gs_A β N p
theorem gs_ctx_eq {β : Int → Int} {N : Int} {I I' : gr_I} {J J' : gr_J} {b p : Int} (h6 : I' 0 6 = I 0 6) (h15 : ∀ k, I' 15 k = I 15 k) (h22 : ∀ k, J' 22 k = J 22 k) : gs_ctx β N I' J' b p = gs_ctx β N I J b p := by
  unfold gs_ctx
  rw [show gs_lt J' 22 (16 * I' 0 6) (I' 15 (Int.toNat (I' 0 6))) (gs_rn β N p) = gs_lt J 22 (16 * I 0 6) (I 15 (Int.toNat (I 0 6))) (gs_rn β N p) from by
    rw [h15, h6]
    exact gs_lt_eq h22 rfl rfl rfl]
/-- at most m further signs of a side -/
def gs_sd (β : Int → Int) (N : Int) (I : gr_I) (J : gr_J) : Nat → Int → Int
  | 0, q => if gs_T β N q = 3 ∨ gs_T β N q = 1 ∨ gs_T β N q = 35 then -1 - gs_A β N q else q
  | m + 1, q => if gs_T β N q = 3 ∨ gs_T β N q = 1 ∨ gs_T β N q = 35 then (if gs_ctx β N I J 1 q < 0 then gs_ctx β N I J 1 q else gs_sd β N I J m (gs_ctx β N I J 1 q)) else q
theorem gs_sd_s {β : Int → Int} {N : Int} {I : gr_I} {J : gr_J} {n q : Int} (hn : n < 3) (h : gs_T β N q = 3 ∨ gs_T β N q = 1 ∨ gs_T β N q = 35) (hc : ¬ gs_ctx β N I J 1 q < 0) : gs_sd β N I J (Int.toNat (3 - n)) q = gs_sd β N I J (Int.toNat (3 - (n + 1))) (gs_ctx β N I J 1 q) := by
  rw [show Int.toNat (3 - n) = Int.toNat (3 - (n + 1)) + 1 from by omega]
  show (if _ then _ else _) = _
  rw [if_pos h, if_neg hc]
theorem gs_sd_c {β : Int → Int} {N : Int} {I : gr_I} {J : gr_J} {n q : Int} (hn : n < 3) (h : gs_T β N q = 3 ∨ gs_T β N q = 1 ∨ gs_T β N q = 35) (hc : gs_ctx β N I J 1 q < 0) : gs_sd β N I J (Int.toNat (3 - n)) q = gs_ctx β N I J 1 q := by
  rw [show Int.toNat (3 - n) = Int.toNat (3 - (n + 1)) + 1 from by omega]
  show (if _ then _ else _) = _
  rw [if_pos h, if_pos hc]
theorem gs_sd_x {β : Int → Int} {N : Int} {I : gr_I} {J : gr_J} {n q : Int} (hn : 3 ≤ n) (h : gs_T β N q = 3 ∨ gs_T β N q = 1 ∨ gs_T β N q = 35) : gs_sd β N I J (Int.toNat (3 - n)) q = -1 - gs_A β N q := by
  rw [show Int.toNat (3 - n) = 0 from by omega]
  exact if_pos h
theorem gs_sd_e {β : Int → Int} {N : Int} {I : gr_I} {J : gr_J} {m : Nat} {q : Int} (h : ¬ (gs_T β N q = 3 ∨ gs_T β N q = 1 ∨ gs_T β N q = 35)) : gs_sd β N I J m q = q := by
  cases m with
  | zero => exact if_neg h
  | succ m => exact if_neg h
theorem gs_sd_eq {β : Int → Int} {N : Int} {I I' : gr_I} {J J' : gr_J} (h6 : I' 0 6 = I 0 6) (h15 : ∀ k, I' 15 k = I 15 k) (h22 : ∀ k, J' 22 k = J 22 k) : ∀ (m : Nat) (q : Int), gs_sd β N I' J' m q = gs_sd β N I J m q
  | 0, _ => rfl
  | m + 1, q => by
    show (if _ then (if gs_ctx β N I' J' 1 q < 0 then gs_ctx β N I' J' 1 q else gs_sd β N I' J' m (gs_ctx β N I' J' 1 q)) else q) = _
    rw [gs_ctx_eq h6 h15 h22, gs_sd_eq h6 h15 h22 m]
    rfl
def gs_snd6 (β : Int → Int) (N : Int) (I : gr_I) (first f : Int) : Int := if f < 0 then f else gs_done β N (if I 16 (Int.toNat (I 0 6)) < 24 then 1 else 0) first f
def gs_snd5 (β : Int → Int) (N : Int) (I : gr_I) (J : gr_J) (first e : Int) : Int := if e < 0 then e else gs_snd6 β N I first (gs_sd β N I J 3 e)
def gs_snd4 (β : Int → Int) (N : Int) (I : gr_I) (J : gr_J) (first d : Int) : Int := if d < 0 then d else gs_snd5 β N I J first (gs_need β N 95 d)
def gs_snd3 (β : Int → Int) (N : Int) (I : gr_I) (J : gr_J) (first c : Int) : Int := if gs_T β N c = 47 then gs_snd4 β N I J first (gs_sd β N I J 3 (gs_X β N c)) else gs_snd6 β N I first c
def gs_snd2 (β : Int → Int) (N : Int) (I : gr_I) (J : gr_J) (first b : Int) : Int := if b < 0 then b else if gs_T β N b = 3 then gs_snd3 β N I J first (gs_X β N b) else -1 - gs_A β N b
def gs_snd1 (β : Int → Int) (N : Int) (I : gr_I) (J : gr_J) (first a : Int) : Int := if a < 0 then a else gs_snd2 β N I J first (gs_need β N 62 a)
def gs_snd (β : Int → Int) (N : Int) (I : gr_I) (J : gr_J) (first p : Int) : Int := if gs_T β N p = 3 ∧ (gs_X β N p - gs_A β N p - 2 < 1 ∨ 3 < gs_X β N p - gs_A β N p - 2) then -1 - gs_A β N p else gs_snd1 β N I J first (gs_ctx β N I J 0 p)
set_option maxHeartbeats 4000000 in
set_option maxRecDepth 100000 in
theorem r_keeps_p {ws0 : List Cond} {tb : String → gz_T} (hws : ∀ w ∈ gr_ws, w ∈ ws0) (htb : tb RX13 = gr_T) (ext : gz_Sh) (I : gr_I) (J : gr_J) (hI : gr_Inv I)   (x0 : I 0 59 + 14 ≤ 2000) (x1 : I 0 73 - I 0 72 ≤ 14) (x2 : 2 ≤ I 0 73 - I 0 72) (x3 : I 0 73 ≤ 1000) : ∃ r h', gz_Ev ws0 tb 2 (yX13_keeps, cX13_keeps, 4, (some .int)) [.inr (.inr (some 0))] (gr_sh ++ ext) (gr_h I J) r (gr_sh ++ ext) h' 0 0 ∧ (∃ (I' : gr_I) (J' : gr_J), h' = gr_h I' J' ∧ gr_Inv I' ∧ gr_fr [59] [51] I I' ∧ gr_fj [59] [51] J J' ∧ (∃ z : Int, r = some (.inl z) ∧ 0 ≤ z ∧ z ≤ 32015 ∧ (I' 0 59 = I 0 59 + (I 0 73 - I 0 72 - 2)) ∧ (0 ≤ z ∧ z ≤ 32015))) := by
  have FI : gr_fr [59] [51] I I := fun _ _ _ => rfl
  have FJ : gr_fj [59] [51] J J := fun _ _ _ => rfl
  have hD : gv_D (gr_E ws0 tb 1 (yX13_keeps, cX13_keeps, 4, (some .int)) kX13_keeps) := gq_ok oX13_keeps
  refine gr_ev (d := 1) (l := kX13_keeps) (Po := fun r h' => (∃ (I' : gr_I) (J' : gr_J), h' = gr_h I' J' ∧ gr_Inv I' ∧ gr_fr [59] [51] I I' ∧ gr_fj [59] [51] J J' ∧ (∃ z : Int, r = some (.inl z) ∧ 0 ≤ z ∧ z ≤ 32015 ∧ (I' 0 59 = I 0 59 + (I 0 73 - I 0 72 - 2)) ∧ (0 ≤ z ∧ z ≤ 32015)))) htb rfl (Nat.le_of_ble_eq_true rfl) ?_
  have f1 := (show 0 ≤ I 0 59 ∧ I 0 59 ≤ 2000 from (hI 0 59).1)
  have f2 := (show 0 ≤ I 0 72 ∧ I 0 72 ≤ 1000 from (hI 0 72).1)
  have f3 := (show 0 ≤ I 0 73 ∧ I 0 73 ≤ 1001 from (hI 0 73).1)
  have L17 : ∀ (n : Nat) (I4 : gr_I) (J5 : gr_J) (v1_6 : Int) (v2_6 : Int) (v3_6 : Int), (13 - v3_6).toNat < n → gr_Inv I4 → gr_fr [59] [51] I I4 → gr_fj [59] [51] J J5 → ((0 ≤ v1_6 ∧ v1_6 ≤ 12) ∧ (0 ≤ v2_6 ∧ v2_6 ≤ 32015) ∧ (0 ≤ v3_6 ∧ v3_6 ≤ 12) ∧ (I4 0 59 = I 0 59 + v3_6) ∧ (I4 0 72 = I 0 72) ∧ (v1_6 = I 0 73 - I 0 72 - 2) ∧ (v3_6 ≤ v1_6)) → gv_X (gr_E ws0 tb 1 (yX13_keeps, cX13_keeps, 4, (some .int)) kX13_keeps) (gv_Q cX13_keeps (some .int) (gr_sh ++ ext) (fun r h' => (∃ (I' : gr_I) (J' : gr_J), h' = gr_h I' J' ∧ gr_Inv I' ∧ gr_fr [59] [51] I I' ∧ gr_fj [59] [51] J J' ∧ (∃ z : Int, r = some (.inl z) ∧ 0 ≤ z ∧ z ≤ 32015 ∧ (I' 0 59 = I 0 59 + (I 0 73 - I 0 72 - 2)) ∧ (0 ≤ z ∧ z ≤ 32015))))) (17, [(0, .inr (.inr (some 0))), (1, .inl v1_6), (2, .inl v2_6), (3, .inl v3_6)], [], gr_sh ++ ext, gr_h I4 J5) := by
    intro n
    induction n with
    | zero => intro I4 J5 v1_6 v2_6 v3_6 hn; omega
    | succ n ih17 =>
      intro I4 J5 v1_6 v2_6 v3_6 hn hI4 FI4 FJ5 m_6
      obtain ⟨hv1_6, hv2_6, hv3_6, e0_6, e1_6, e2_6, e3_6⟩ := m_6
      have f7 := (show 0 ≤ I4 0 59 ∧ I4 0 59 ≤ 2000 from (hI4 0 59).1)
      have f8 := (show 0 ≤ I4 0 72 ∧ I4 0 72 ≤ 1000 from (hI4 0 72).1)
      have f9 := (show 0 ≤ I4 0 73 ∧ I4 0 73 ≤ 1001 from (hI4 0 73).1)
      refine gv_run 2 true hD (pc' := 19) (lv' := [(0, .inr (.inr (some 0))), (1, .inl v1_6), (2, .inl v2_6), (3, .inl v3_6)]) (st' := [.inl v1_6, .inl v3_6]) (h' := gr_h I4 J5) (C := ((True ∧ True) ∧ True)) rfl ⟨⟨trivial, trivial⟩, trivial⟩ ?_
      refine gv_icmp_ge (t := 57) hD rfl rfl ⟨⟨by omega, by omega⟩, ⟨by omega, by omega⟩⟩ (fun c10 => ?_) (fun c10 => ?_)
      · refine gv_run 1 true hD (pc' := 58) (lv' := [(0, .inr (.inr (some 0))), (1, .inl v1_6), (2, .inl v2_6), (3, .inl v3_6)]) (st' := [.inl v2_6]) (h' := gr_h I4 J5) (C := (True ∧ True)) rfl ⟨trivial, trivial⟩ ?_
        exact gv_iret hD rfl ⟨I4, J5, rfl, hI4, FI4, FJ5, ⟨_, rfl, by omega⟩⟩
      · have f11 := (show 0 ≤ I4 0 59 ∧ I4 0 59 ≤ 2000 from (hI4 0 59).1)
        refine gv_run 7 true hD (pc' := 33) (lv' := [(0, .inr (.inr (some 0))), (1, .inl v1_6), (2, .inl v2_6), (3, .inl v3_6)]) (st' := [.inl 1, .inl (I4 0 59), .inr (.inr (some 0)), .inl (I4 0 59), .inr (.inr (some 51))]) (h' := gr_h I4 J5) (C := (((((((True ∧ True) ∧ True) ∧ True) ∧ True) ∧ True) ∧ True) ∧ True)) rfl ⟨⟨⟨⟨⟨⟨⟨trivial, trivial⟩, trivial⟩, trivial⟩, trivial⟩, trivial⟩, trivial⟩, trivial⟩ ?_
        refine gv_run 2 true hD (pc' := 37) (lv' := [(0, .inr (.inr (some 0))), (1, .inl v1_6), (2, .inl v2_6), (3, .inl v3_6)]) (st' := [.inl (I4 0 59), .inr (.inr (some 51))]) (h' := gz_up (gr_h I4 J5) 0 59 (.inl (((I4 0 59) + 1)))) (C := ((True ∧ True) ∧ True)) rfl ⟨⟨trivial, trivial⟩, trivial⟩ ?_
        refine gr_st hI4 FI4 rfl rfl ⟨⟨by show 0 ≤ _; omega, by show _ ≤ 2000; omega⟩, trivial⟩ (fun I12 hI12 FI12 q13 p13 => ?_)
        have t14 := p13 0 72 (by decide)
        have t15 := p13 0 73 (by decide)
        have f16 := (show 0 ≤ I12 0 59 ∧ I12 0 59 ≤ 2000 from (hI12 0 59).1)
        have f17 := (show 0 ≤ I12 0 72 ∧ I12 0 72 ≤ 1000 from (hI12 0 72).1)
        have f18 := (show 0 ≤ I12 0 73 ∧ I12 0 73 ≤ 1001 from (hI12 0 73).1)
        have f19 := (show 0 ≤ I12 0 72 ∧ I12 0 72 ≤ 1000 from (hI12 0 72).1)
        refine gv_run 7 true hD (pc' := 48) (lv' := [(0, .inr (.inr (some 0))), (1, .inl v1_6), (2, .inl v2_6), (3, .inl v3_6)]) (st' := [.inl v3_6, .inl ((I12 0 72) + 1), .inr (.inr (some 57)), .inl (I4 0 59), .inr (.inr (some 51))]) (h' := gr_h I12 J5) (C := (((((((True ∧ True) ∧ True) ∧ True) ∧ True) ∧ True) ∧ True) ∧ True)) rfl ⟨⟨⟨⟨⟨⟨⟨trivial, trivial⟩, trivial⟩, trivial⟩, trivial⟩, trivial⟩, trivial⟩, trivial⟩ ?_
        have f20 := (show (-128) ≤ I12 57 (Int.toNat ((((I12 0 72) + 1) + v3_6))) ∧ I12 57 (Int.toNat ((((I12 0 72) + 1) + v3_6))) ≤ 127 from (hI12 57 (Int.toNat ((((I12 0 72) + 1) + v3_6)))).1)
        refine gv_run 2 true hD (pc' := 50) (lv' := [(0, .inr (.inr (some 0))), (1, .inl v1_6), (2, .inl v2_6), (3, .inl v3_6)]) (st' := [.inl (I12 57 (Int.toNat ((((I12 0 72) + 1) + v3_6)))), .inl (I4 0 59), .inr (.inr (some 51))]) (h' := gr_h I12 J5) (C := ((True ∧ True) ∧ (0 ≤ ((((I12 0 72) + 1) + v3_6)) ∧ ((((I12 0 72) + 1) + v3_6)) < ((1000 : Nat) : Int)))) rfl ⟨⟨trivial, trivial⟩, ⟨by omega, by omega⟩⟩ ?_
        have f21 := gw_nar_byte (x := ((I12 57 (Int.toNat ((((I12 0 72) + 1) + v3_6))))))
        refine gv_run 1 true hD (pc' := 51) (lv' := [(0, .inr (.inr (some 0))), (1, .inl v1_6), (2, .inl v2_6), (3, .inl v3_6)]) (st' := []) (h' := gz_up (gr_h I12 J5) 51 (Int.toNat ((I4 0 59))) (.inl (((vp_nar .byte (Int32.ofInt ((I12 57 (Int.toNat ((((I12 0 72) + 1) + v3_6))))))).toInt)))) (C := (True ∧ (0 ≤ (I4 0 59) ∧ (I4 0 59) < ((82000 : Nat) : Int)))) rfl ⟨trivial, ⟨by omega, by omega⟩⟩ ?_
        refine gr_st hI12 FI12 rfl rfl ⟨⟨by show (-128) ≤ _; omega, by show _ ≤ 127; omega⟩, trivial⟩ (fun I22 hI22 FI22 q23 p23 => ?_)
        have t24 := p23 0 59 (fun q => absurd q.1 (by decide))
        have t25 := p23 0 72 (fun q => absurd q.1 (by decide))
        have t26 := p23 0 73 (fun q => absurd q.1 (by decide))
        have f27 := (show 0 ≤ I22 0 59 ∧ I22 0 59 ≤ 2000 from (hI22 0 59).1)
        have f28 := (show 0 ≤ I22 0 72 ∧ I22 0 72 ≤ 1000 from (hI22 0 72).1)
        have f29 := (show 0 ≤ I22 0 73 ∧ I22 0 73 ≤ 1001 from (hI22 0 73).1)
        refine gv_run 2 true hD (pc' := 17) (lv' := [(3, .inl (v3_6 + 1)), (0, .inr (.inr (some 0))), (1, .inl v1_6), (2, .inl v2_6)]) (st' := []) (h' := gr_h I22 J5) (C := ((True ∧ True) ∧ True)) rfl ⟨⟨trivial, trivial⟩, trivial⟩ ?_
        refine gv_pick [1, 2, 3, 0] rfl ?_
        exact ih17 I22 J5 v1_6 v2_6 (v3_6 + 1) (by omega) hI22 FI22 FJ5 (by omega)
  refine gv_run 1 true hD (pc' := 1) (lv' := [(0, .inr (.inr (some 0)))]) (st' := [.inr (.inr (some 0))]) (h' := gr_h I J) (C := (True ∧ True)) rfl ⟨trivial, trivial⟩ ?_
  obtain ⟨r30, h30, E30, P30⟩ := r_size (ws0 := ws0) (tb := tb) hws htb ext I J hI   
  obtain ⟨rfl, ⟨z30, rfl, q30⟩⟩ := P30
  refine gv_callV hD rfl (As := []) (st := []) rfl (by decide) rfl rfl (gr_lV hws rfl) (Nat.le_of_ble_eq_true rfl) (gz_Ev_mono (d := 1) (by decide) E30) ?_
  show gv_X _ _ (4, [(0, .inr (.inr (some 0)))], [.inl z30], gr_sh ++ ext, gr_h I J)
  have f31 := (show 0 ≤ I 0 59 ∧ I 0 59 ≤ 2000 from (hI 0 59).1)
  refine gv_run 7 true hD (pc' := 14) (lv' := [(1, .inl z30), (0, .inr (.inr (some 0)))]) (st' := [.inl ((16 * (I 0 59)) + z30)]) (h' := gr_h I J) (C := (((((((True ∧ True) ∧ True) ∧ True) ∧ True) ∧ True) ∧ True) ∧ True)) rfl ⟨⟨⟨⟨⟨⟨⟨trivial, trivial⟩, trivial⟩, trivial⟩, trivial⟩, trivial⟩, trivial⟩, trivial⟩ ?_
  refine gv_run 3 true hD (pc' := 17) (lv' := [(3, .inl 0), (2, .inl ((16 * (I 0 59)) + z30)), (1, .inl z30), (0, .inr (.inr (some 0)))]) (st' := []) (h' := gr_h I J) (C := (((True ∧ True) ∧ True) ∧ True)) rfl ⟨⟨⟨trivial, trivial⟩, trivial⟩, trivial⟩ ?_
  refine gv_pick [3, 2, 1, 0] rfl ?_
  exact L17 _ I J z30 (((16 * (I 0 59)) + z30)) 0 (Nat.lt_succ_self _) hI FI FJ (by omega)
set_option maxHeartbeats 4000000 in
set_option maxRecDepth 100000 in
theorem r_context_p {ws0 : List Cond} {tb : String → gz_T} (hws : ∀ w ∈ gr_ws, w ∈ ws0) (htb : tb RX13 = gr_T) (ext : gz_Sh) (β : Int → Int) (N9 : Int) (p9 : Int) (I : gr_I) (J : gr_J) (hI : gr_Inv I) (a1 : Int) (ha1 : 0 ≤ a1 ∧ a1 ≤ 1) (x0 : I 0 71 = 5 ∨ I 0 73 ≤ I 0 69) (x1 : I 0 72 ≤ I 0 69) (x2 : I 0 71 = 0 ∨ (I 0 72 < I 0 73 ∧ I 0 72 < I 0 69)) (x3 : I 0 71 = 3 → 2 ≤ I 0 73 - I 0 72 ∧ I 0 73 - I 0 72 ≤ 14) (x4 : I 0 72 ≤ I 0 73) (x5 : 0 ≤ I 0 6) (x6 : I 0 59 + I 0 69 - I 0 72 ≤ 1900) (x7 : gr_ATp β N9 p9 I J) (x8 : 0 ≤ p9) : ∃ r h', gz_Ev ws0 tb 11 (yX13_context, cX13_context, 3, (some .boolean)) [.inr (.inr (some 0)), .inl a1] (gr_sh ++ ext) (gr_h I J) r (gr_sh ++ ext) h' 0 0 ∧ (∃ (I' : gr_I) (J' : gr_J), h' = gr_h I' J' ∧ gr_Inv I' ∧ gr_fr [59, 71, 72, 73, 74, 75, 76, 77, 104] [51] I I' ∧ gr_fj [59, 71, 72, 73, 74, 75, 76, 77, 104] [51] J J' ∧ (∃ z : Int, r = some (.inl z) ∧ 0 ≤ z ∧ z ≤ 1 ∧ (I' 0 71 = 5 ∨ I' 0 73 ≤ I' 0 69) ∧ (I' 0 72 ≤ I' 0 69) ∧ (I' 0 71 = 0 ∨ (I' 0 72 < I' 0 73 ∧ I' 0 72 < I' 0 69)) ∧ (I' 0 71 = 3 → 2 ≤ I' 0 73 - I' 0 72 ∧ I' 0 73 - I' 0 72 ≤ 14) ∧ (I' 0 72 ≤ I' 0 73) ∧ (I' 0 69 = I 0 69) ∧ (I 0 73 ≤ I' 0 73) ∧ (I 0 72 ≤ I' 0 72) ∧ (I' 0 59 - I' 0 72 ≤ I 0 59 - I 0 72) ∧ (z = 0 ∨ a1 = 1 ∨ (-16 ≤ I' 0 104 ∧ I' 0 104 ≤ 32015)) ∧ (gs_Or z (0 ≤ (gs_ctx β N9 I J a1 p9) ∧ gr_ATp β N9 (gs_ctx β N9 I J a1 p9) I' J') ((gs_ctx β N9 I J a1 p9) < 0 ∧ I' 0 77 = -1 - (gs_ctx β N9 I J a1 p9))))) := by
  have FI : gr_fr [59, 71, 72, 73, 74, 75, 76, 77, 104] [51] I I := fun _ _ _ => rfl
  have FJ : gr_fj [59, 71, 72, 73, 74, 75, 76, 77, 104] [51] J J := fun _ _ _ => rfl
  have hD : gv_D (gr_E ws0 tb 10 (yX13_context, cX13_context, 3, (some .boolean)) kX13_context) := gq_ok oX13_context
  refine gr_ev (d := 10) (l := kX13_context) (Po := fun r h' => (∃ (I' : gr_I) (J' : gr_J), h' = gr_h I' J' ∧ gr_Inv I' ∧ gr_fr [59, 71, 72, 73, 74, 75, 76, 77, 104] [51] I I' ∧ gr_fj [59, 71, 72, 73, 74, 75, 76, 77, 104] [51] J J' ∧ (∃ z : Int, r = some (.inl z) ∧ 0 ≤ z ∧ z ≤ 1 ∧ (I' 0 71 = 5 ∨ I' 0 73 ≤ I' 0 69) ∧ (I' 0 72 ≤ I' 0 69) ∧ (I' 0 71 = 0 ∨ (I' 0 72 < I' 0 73 ∧ I' 0 72 < I' 0 69)) ∧ (I' 0 71 = 3 → 2 ≤ I' 0 73 - I' 0 72 ∧ I' 0 73 - I' 0 72 ≤ 14) ∧ (I' 0 72 ≤ I' 0 73) ∧ (I' 0 69 = I 0 69) ∧ (I 0 73 ≤ I' 0 73) ∧ (I 0 72 ≤ I' 0 72) ∧ (I' 0 59 - I' 0 72 ≤ I 0 59 - I 0 72) ∧ (z = 0 ∨ a1 = 1 ∨ (-16 ≤ I' 0 104 ∧ I' 0 104 ≤ 32015)) ∧ (gs_Or z (0 ≤ (gs_ctx β N9 I J a1 p9) ∧ gr_ATp β N9 (gs_ctx β N9 I J a1 p9) I' J') ((gs_ctx β N9 I J a1 p9) < 0 ∧ I' 0 77 = -1 - (gs_ctx β N9 I J a1 p9)))))) htb rfl (Nat.le_of_ble_eq_true rfl) ?_
  have tAT := gr_ATp_l x7
  have f1 := (show 0 ≤ I 0 71 ∧ I 0 71 ≤ 5 from (hI 0 71).1)
  have f2 := (show 0 ≤ I 0 72 ∧ I 0 72 ≤ 1000 from (hI 0 72).1)
  have f3 := (show 0 ≤ I 0 73 ∧ I 0 73 ≤ 1001 from (hI 0 73).1)
  have f4 := (show 0 ≤ I 0 69 ∧ I 0 69 ≤ 1000 from (hI 0 69).1)
  have f5 := (show (-1) ≤ I 0 6 ∧ I 0 6 ≤ 7 from (hI 0 6).1)
  have f6 := (show 0 ≤ I 0 59 ∧ I 0 59 ≤ 2000 from (hI 0 59).1)
  have f7 := (show (-2147483648) ≤ I 0 104 ∧ I 0 104 ≤ 2147483647 from (hI 0 104).1)
  have f8 := (show 0 ≤ I 0 71 ∧ I 0 71 ≤ 5 from (hI 0 71).1)
  refine gv_run 3 true hD (pc' := 5) (lv' := [(0, .inr (.inr (some 0))), (1, .inl a1)]) (st' := [.inl 3, .inl (I 0 71)]) (h' := gr_h I J) (C := (((True ∧ True) ∧ True) ∧ True)) rfl ⟨⟨⟨trivial, trivial⟩, trivial⟩, trivial⟩ ?_
  refine gv_icmp_ne (t := 19) hD rfl rfl ⟨⟨by omega, by omega⟩, ⟨by omega, by omega⟩⟩ (fun c9 => ?_) (fun c9 => ?_)
  · have t10 := gr_ATp_k x7 (c := 3) ⟨by omega, by omega⟩
    have f11 := (show 0 ≤ I 0 71 ∧ I 0 71 ≤ 5 from (hI 0 71).1)
    refine gv_run 3 true hD (pc' := 24) (lv' := [(0, .inr (.inr (some 0))), (1, .inl a1)]) (st' := [.inl 1, .inl (I 0 71)]) (h' := gr_h I J) (C := (((True ∧ True) ∧ True) ∧ True)) rfl ⟨⟨⟨trivial, trivial⟩, trivial⟩, trivial⟩ ?_
    refine gv_icmp_ne (t := 75) hD rfl rfl ⟨⟨by omega, by omega⟩, ⟨by omega, by omega⟩⟩ (fun c12 => ?_) (fun c12 => ?_)
    · have t13 := gr_ATp_k x7 (c := 1) ⟨by omega, by omega⟩
      refine gv_run 1 true hD (pc' := 76) (lv' := [(0, .inr (.inr (some 0))), (1, .inl a1)]) (st' := [.inl a1]) (h' := gr_h I J) (C := (True ∧ True)) rfl ⟨trivial, trivial⟩ ?_
      refine gv_if_eq (t := 98) hD rfl rfl ⟨by omega, by omega⟩ (fun c14 => ?_) (fun c14 => ?_)
      · refine gv_run 2 true hD (pc' := 100) (lv' := [(0, .inr (.inr (some 0))), (1, .inl a1)]) (st' := [.inl 1, .inr (.inr (some 0))]) (h' := gr_h I J) (C := ((True ∧ True) ∧ True)) rfl ⟨⟨trivial, trivial⟩, trivial⟩ ?_
        obtain ⟨r15, h15, E15, P15⟩ := r_no__p (ws0 := ws0) (tb := tb) hws htb ext β N9 p9 I J hI 1 ⟨by omega, by omega⟩ x7 (by omega)
        obtain ⟨I16, J17, rfl, hI16, g15, k15, ⟨z15, rfl, q15⟩⟩ := P15
        have FI16 := gr_frt FI g15 rfl rfl
        have FJ17 := gr_fjt FJ k15 rfl rfl
        have t18 := g15 0 71 rfl
        have t19 := g15 0 72 rfl
        have t20 := g15 0 73 rfl
        have t21 := g15 0 69 rfl
        have t22 := g15 0 6 rfl
        have t23 := g15 0 59 rfl
        have t24 := g15 0 104 rfl
        have f25 := (show 0 ≤ I16 0 71 ∧ I16 0 71 ≤ 5 from (hI16 0 71).1)
        have f26 := (show 0 ≤ I16 0 72 ∧ I16 0 72 ≤ 1000 from (hI16 0 72).1)
        have f27 := (show 0 ≤ I16 0 73 ∧ I16 0 73 ≤ 1001 from (hI16 0 73).1)
        have f28 := (show 0 ≤ I16 0 69 ∧ I16 0 69 ≤ 1000 from (hI16 0 69).1)
        have f29 := (show (-1) ≤ I16 0 6 ∧ I16 0 6 ≤ 7 from (hI16 0 6).1)
        have f30 := (show 0 ≤ I16 0 59 ∧ I16 0 59 ≤ 2000 from (hI16 0 59).1)
        have f31 := (show (-2147483648) ≤ I16 0 104 ∧ I16 0 104 ≤ 2147483647 from (hI16 0 104).1)
        have A32 := gr_ATp_F x7 g15 k15 rfl
        have t33 := gr_ATp_l A32
        refine gv_callV hD rfl (As := [.inl 1]) (st := []) rfl (by decide) rfl rfl (gr_lV hws rfl) (Nat.le_of_ble_eq_true rfl) (gz_Ev_mono (d := 2) (by decide) E15) ?_
        show gv_X _ _ (103, [(0, .inr (.inr (some 0))), (1, .inl a1)], [.inl z15], gr_sh ++ ext, gr_h I16 J17)
        have b34 : (I16 0 71 = 5 ∨ I16 0 73 ≤ I16 0 69) ∧ (I16 0 72 ≤ I16 0 69) ∧ (I16 0 71 = 0 ∨ (I16 0 72 < I16 0 73 ∧ I16 0 72 < I16 0 69)) ∧ (I16 0 71 = 3 → 2 ≤ I16 0 73 - I16 0 72 ∧ I16 0 73 - I16 0 72 ≤ 14) ∧ (I16 0 72 ≤ I16 0 73) ∧ (I16 0 69 = I 0 69) ∧ (I 0 73 ≤ I16 0 73) ∧ (I 0 72 ≤ I16 0 72) ∧ (I16 0 59 - I16 0 72 ≤ I 0 59 - I 0 72) ∧ ((z15 : Int) = 0 ∨ a1 = 1 ∨ (-16 ≤ I16 0 104 ∧ I16 0 104 ≤ 32015)) := by omega
        exact gv_zret hD rfl (by omega) ⟨I16, J17, rfl, hI16, FI16, FJ17, ⟨_, rfl, by omega, by omega, b34.1, b34.2.1, b34.2.2.1, b34.2.2.2.1, b34.2.2.2.2.1, b34.2.2.2.2.2.1, b34.2.2.2.2.2.2.1, b34.2.2.2.2.2.2.2.1, b34.2.2.2.2.2.2.2.2.1, b34.2.2.2.2.2.2.2.2.2, (Or.inr ⟨by omega, by unfold gs_ctx; (repeat first | rw [if_pos (by omega)] | rw [if_neg (by omega)]); exact ⟨by omega, by omega⟩⟩)⟩⟩
      · refine gv_run 2 true hD (pc' := 82) (lv' := [(0, .inr (.inr (some 0))), (1, .inl a1)]) (st' := [.inl 35, .inr (.inr (some 0))]) (h' := gr_h I J) (C := ((True ∧ True) ∧ True)) rfl ⟨⟨trivial, trivial⟩, trivial⟩ ?_
        obtain ⟨r35, h35, E35, P35⟩ := r_sign_p (ws0 := ws0) (tb := tb) hws htb ext β N9 p9 I J hI 35 ⟨by omega, by omega⟩ (by omega) x7 (by omega)
        obtain ⟨rfl, ⟨z35, rfl, q35⟩⟩ := P35
        refine gv_callV hD rfl (As := [.inl 35]) (st := []) rfl (by decide) rfl rfl (gr_lV hws rfl) (Nat.le_of_ble_eq_true rfl) (gz_Ev_mono (d := 1) (by decide) E35) ?_
        show gv_X _ _ (85, [(0, .inr (.inr (some 0))), (1, .inl a1)], [.inl z35], gr_sh ++ ext, gr_h I J)
        refine gv_if_eq (t := 98) hD rfl rfl ⟨by omega, by omega⟩ (fun c36 => ?_) (fun c36 => ?_)
        · refine gv_run 2 true hD (pc' := 100) (lv' := [(0, .inr (.inr (some 0))), (1, .inl a1)]) (st' := [.inl 1, .inr (.inr (some 0))]) (h' := gr_h I J) (C := ((True ∧ True) ∧ True)) rfl ⟨⟨trivial, trivial⟩, trivial⟩ ?_
          obtain ⟨r37, h37, E37, P37⟩ := r_no__p (ws0 := ws0) (tb := tb) hws htb ext β N9 p9 I J hI 1 ⟨by omega, by omega⟩ x7 (by omega)
          obtain ⟨I38, J39, rfl, hI38, g37, k37, ⟨z37, rfl, q37⟩⟩ := P37
          have FI38 := gr_frt FI g37 rfl rfl
          have FJ39 := gr_fjt FJ k37 rfl rfl
          have t40 := g37 0 71 rfl
          have t41 := g37 0 72 rfl
          have t42 := g37 0 73 rfl
          have t43 := g37 0 69 rfl
          have t44 := g37 0 6 rfl
          have t45 := g37 0 59 rfl
          have t46 := g37 0 104 rfl
          have f47 := (show 0 ≤ I38 0 71 ∧ I38 0 71 ≤ 5 from (hI38 0 71).1)
          have f48 := (show 0 ≤ I38 0 72 ∧ I38 0 72 ≤ 1000 from (hI38 0 72).1)
          have f49 := (show 0 ≤ I38 0 73 ∧ I38 0 73 ≤ 1001 from (hI38 0 73).1)
          have f50 := (show 0 ≤ I38 0 69 ∧ I38 0 69 ≤ 1000 from (hI38 0 69).1)
          have f51 := (show (-1) ≤ I38 0 6 ∧ I38 0 6 ≤ 7 from (hI38 0 6).1)
          have f52 := (show 0 ≤ I38 0 59 ∧ I38 0 59 ≤ 2000 from (hI38 0 59).1)
          have f53 := (show (-2147483648) ≤ I38 0 104 ∧ I38 0 104 ≤ 2147483647 from (hI38 0 104).1)
          have A54 := gr_ATp_F x7 g37 k37 rfl
          have t55 := gr_ATp_l A54
          refine gv_callV hD rfl (As := [.inl 1]) (st := []) rfl (by decide) rfl rfl (gr_lV hws rfl) (Nat.le_of_ble_eq_true rfl) (gz_Ev_mono (d := 2) (by decide) E37) ?_
          show gv_X _ _ (103, [(0, .inr (.inr (some 0))), (1, .inl a1)], [.inl z37], gr_sh ++ ext, gr_h I38 J39)
          have b56 : (I38 0 71 = 5 ∨ I38 0 73 ≤ I38 0 69) ∧ (I38 0 72 ≤ I38 0 69) ∧ (I38 0 71 = 0 ∨ (I38 0 72 < I38 0 73 ∧ I38 0 72 < I38 0 69)) ∧ (I38 0 71 = 3 → 2 ≤ I38 0 73 - I38 0 72 ∧ I38 0 73 - I38 0 72 ≤ 14) ∧ (I38 0 72 ≤ I38 0 73) ∧ (I38 0 69 = I 0 69) ∧ (I 0 73 ≤ I38 0 73) ∧ (I 0 72 ≤ I38 0 72) ∧ (I38 0 59 - I38 0 72 ≤ I 0 59 - I 0 72) ∧ ((z37 : Int) = 0 ∨ a1 = 1 ∨ (-16 ≤ I38 0 104 ∧ I38 0 104 ≤ 32015)) := by omega
          exact gv_zret hD rfl (by omega) ⟨I38, J39, rfl, hI38, FI38, FJ39, ⟨_, rfl, by omega, by omega, b56.1, b56.2.1, b56.2.2.1, b56.2.2.2.1, b56.2.2.2.2.1, b56.2.2.2.2.2.1, b56.2.2.2.2.2.2.1, b56.2.2.2.2.2.2.2.1, b56.2.2.2.2.2.2.2.2.1, b56.2.2.2.2.2.2.2.2.2, (Or.inr ⟨by omega, by unfold gs_ctx; (repeat first | rw [if_pos (by omega)] | rw [if_neg (by omega)]); exact ⟨by omega, by omega⟩⟩)⟩⟩
        · refine gv_run 3 true hD (pc' := 95) (lv' := [(0, .inr (.inr (some 0))), (1, .inl a1)]) (st' := []) (h' := gz_up (gr_h I J) 0 104 (.inl (-2147483648))) (C := (((True ∧ True) ∧ True) ∧ True)) rfl ⟨⟨⟨trivial, trivial⟩, trivial⟩, trivial⟩ ?_
          refine gr_st hI FI rfl rfl ⟨⟨by show (-2147483648) ≤ _; omega, by show _ ≤ 2147483647; omega⟩, by show ((-2147483648) = -2147483648 ∨ (-2147483648) = 2147483647 ∨ -16 ≤ (-2147483648) ∧ (-2147483648) ≤ 32015); omega⟩ (fun I57 hI57 FI57 q58 p58 => ?_)
          have t59 := p58 0 71 (by decide)
          have t60 := p58 0 72 (by decide)
          have t61 := p58 0 73 (by decide)
          have t62 := p58 0 69 (by decide)
          have t63 := p58 0 6 (by decide)
          have t64 := p58 0 59 (by decide)
          have f65 := (show 0 ≤ I57 0 71 ∧ I57 0 71 ≤ 5 from (hI57 0 71).1)
          have f66 := (show 0 ≤ I57 0 72 ∧ I57 0 72 ≤ 1000 from (hI57 0 72).1)
          have f67 := (show 0 ≤ I57 0 73 ∧ I57 0 73 ≤ 1001 from (hI57 0 73).1)
          have f68 := (show 0 ≤ I57 0 69 ∧ I57 0 69 ≤ 1000 from (hI57 0 69).1)
          have f69 := (show (-1) ≤ I57 0 6 ∧ I57 0 6 ≤ 7 from (hI57 0 6).1)
          have f70 := (show 0 ≤ I57 0 59 ∧ I57 0 59 ≤ 2000 from (hI57 0 59).1)
          have f71 := (show (-2147483648) ≤ I57 0 104 ∧ I57 0 104 ≤ 2147483647 from (hI57 0 104).1)
          have A72 := gr_ATp_sf x7 p58 rfl
          refine gv_run 2 true hD (pc' := 105) (lv' := [(0, .inr (.inr (some 0))), (1, .inl a1)]) (st' := [.inr (.inr (some 0))]) (h' := gr_h I57 J) (C := ((True ∧ True) ∧ True)) rfl ⟨⟨trivial, trivial⟩, trivial⟩ ?_
          obtain ⟨r73, h73, E73, P73⟩ := r_next_p (ws0 := ws0) (tb := tb) hws htb ext β N9 I57 J hI57   (by omega) A72.1.1 A72.1.2
          obtain ⟨I74, J75, rfl, hI74, g73, k73, ⟨rfl, q73⟩⟩ := P73
          have FI74 := gr_frt FI57 g73 rfl rfl
          have FJ75 := gr_fjt FJ k73 rfl rfl
          have t76 := g73 0 69 rfl
          have t77 := g73 0 6 rfl
          have t78 := g73 0 59 rfl
          have t79 := g73 0 104 rfl
          have f80 := (show 0 ≤ I74 0 71 ∧ I74 0 71 ≤ 5 from (hI74 0 71).1)
          have f81 := (show 0 ≤ I74 0 72 ∧ I74 0 72 ≤ 1000 from (hI74 0 72).1)
          have f82 := (show 0 ≤ I74 0 73 ∧ I74 0 73 ≤ 1001 from (hI74 0 73).1)
          have f83 := (show 0 ≤ I74 0 69 ∧ I74 0 69 ≤ 1000 from (hI74 0 69).1)
          have f84 := (show (-1) ≤ I74 0 6 ∧ I74 0 6 ≤ 7 from (hI74 0 6).1)
          have f85 := (show 0 ≤ I74 0 59 ∧ I74 0 59 ≤ 2000 from (hI74 0 59).1)
          have f86 := (show (-2147483648) ≤ I74 0 104 ∧ I74 0 104 ≤ 2147483647 from (hI74 0 104).1)
          have A87 := gr_ATp_nx A72 q73.2.2.2.2.2
          have t88 := gr_ATp_l A87
          refine gv_callV hD rfl (As := []) (st := []) rfl (by decide) rfl rfl (gr_lV hws rfl) (Nat.le_of_ble_eq_true rfl) (gz_Ev_mono (d := 10) (by decide) E73) ?_
          show gv_X _ _ (108, [(0, .inr (.inr (some 0))), (1, .inl a1)], [], gr_sh ++ ext, gr_h I74 J75)
          refine gv_run 1 true hD (pc' := 109) (lv' := [(0, .inr (.inr (some 0))), (1, .inl a1)]) (st' := [.inl 1]) (h' := gr_h I74 J75) (C := (True ∧ True)) rfl ⟨trivial, trivial⟩ ?_
          have b89 : (I74 0 71 = 5 ∨ I74 0 73 ≤ I74 0 69) ∧ (I74 0 72 ≤ I74 0 69) ∧ (I74 0 71 = 0 ∨ (I74 0 72 < I74 0 73 ∧ I74 0 72 < I74 0 69)) ∧ (I74 0 71 = 3 → 2 ≤ I74 0 73 - I74 0 72 ∧ I74 0 73 - I74 0 72 ≤ 14) ∧ (I74 0 72 ≤ I74 0 73) ∧ (I74 0 69 = I 0 69) ∧ (I 0 73 ≤ I74 0 73) ∧ (I 0 72 ≤ I74 0 72) ∧ (I74 0 59 - I74 0 72 ≤ I 0 59 - I 0 72) ∧ ((1 : Int) = 0 ∨ a1 = 1 ∨ (-16 ≤ I74 0 104 ∧ I74 0 104 ≤ 32015)) := by omega
          exact gv_zret hD rfl (by omega) ⟨I74, J75, rfl, hI74, FI74, FJ75, ⟨_, rfl, by omega, by omega, b89.1, b89.2.1, b89.2.2.1, b89.2.2.2.1, b89.2.2.2.2.1, b89.2.2.2.2.2.1, b89.2.2.2.2.2.2.1, b89.2.2.2.2.2.2.2.1, b89.2.2.2.2.2.2.2.2.1, b89.2.2.2.2.2.2.2.2.2, (Or.inl ⟨by omega, by have e9 : (gs_ctx β N9 I J a1 p9) = (gs_X β N9 p9) := (by unfold gs_ctx; (repeat first | rw [if_pos (by omega)] | rw [if_neg (by omega)])); rw [e9]; exact ⟨by omega, A87⟩⟩)⟩⟩
    · have t90 := gr_ATp_k x7 (c := 1) ⟨by omega, by omega⟩
      have f91 := (show (-1) ≤ I 0 6 ∧ I 0 6 ≤ 7 from (hI 0 6).1)
      refine gv_run 7 true hD (pc' := 39) (lv' := [(0, .inr (.inr (some 0))), (1, .inl a1)]) (st' := [.inr (.inr (some 0)), .inl (16 * (I 0 6)), .inr (.inr (some 22))]) (h' := gr_h I J) (C := (((((((True ∧ True) ∧ True) ∧ True) ∧ True) ∧ True) ∧ True) ∧ True)) rfl ⟨⟨⟨⟨⟨⟨⟨trivial, trivial⟩, trivial⟩, trivial⟩, trivial⟩, trivial⟩, trivial⟩, trivial⟩ ?_
      have f92 := (show (-1) ≤ I 0 6 ∧ I 0 6 ≤ 7 from (hI 0 6).1)
      have f93 := (show 0 ≤ I 15 (Int.toNat ((I 0 6))) ∧ I 15 (Int.toNat ((I 0 6))) ≤ 16 from (hI 15 (Int.toNat ((I 0 6)))).1)
      refine gv_run 4 true hD (pc' := 47) (lv' := [(0, .inr (.inr (some 0))), (1, .inl a1)]) (st' := [.inl (I 15 (Int.toNat ((I 0 6)))), .inl (16 * (I 0 6)), .inr (.inr (some 22))]) (h' := gr_h I J) (C := ((((True ∧ True) ∧ True) ∧ True) ∧ (0 ≤ (I 0 6) ∧ (I 0 6) < ((8 : Nat) : Int)))) rfl ⟨⟨⟨⟨trivial, trivial⟩, trivial⟩, trivial⟩, ⟨by omega, by omega⟩⟩ ?_
      refine gv_run 2 true hD (pc' := 51) (lv' := [(0, .inr (.inr (some 0))), (1, .inl a1)]) (st' := [.inr (.inl (J 0 75)), .inl (I 15 (Int.toNat ((I 0 6)))), .inl (16 * (I 0 6)), .inr (.inr (some 22))]) (h' := gr_h I J) (C := ((True ∧ True) ∧ True)) rfl ⟨⟨trivial, trivial⟩, trivial⟩ ?_
      obtain ⟨r94, h94, E94, P94⟩ := r_find_22_p (ws0 := ws0) (tb := tb) hws htb ext I J hI ((16 * (I 0 6))) ((I 15 (Int.toNat ((I 0 6))))) (J 0 75) ⟨by omega, by omega⟩ ⟨by omega, by omega⟩ (by omega)
      obtain ⟨rfl, ⟨z94, rfl, q94⟩⟩ := P94
      have t95 := q94.2.2.2.trans (gs_lt_eq (J := J) (row := 22) (o := 16 * I 0 6) (n := I 15 (Int.toNat (I 0 6))) (w := gs_rn β N9 p9) (fun k => rfl) (by omega) (by first | exact rfl | (rw [show ((I 0 6)) = I 0 6 from by omega]; exact rfl)) (gr_ATp_w x7))
      refine gv_callS hD rfl (As := [.inr (.inr (some 22)), .inl (16 * (I 0 6)), .inl (I 15 (Int.toNat ((I 0 6)))), .inr (.inl (J 0 75))]) (st := []) rfl (gr_lS hws rfl) (Nat.le_of_ble_eq_true rfl) (gz_Ev_mono (d := 1) (by decide) E94) ?_
      show gv_X _ _ (54, [(0, .inr (.inr (some 0))), (1, .inl a1)], [.inl z94], gr_sh ++ ext, gr_h I J)
      refine gv_run 2 true hD (pc' := 56) (lv' := [(2, .inl z94), (0, .inr (.inr (some 0))), (1, .inl a1)]) (st' := [.inl z94]) (h' := gr_h I J) (C := ((True ∧ True) ∧ True)) rfl ⟨⟨trivial, trivial⟩, trivial⟩ ?_
      refine gv_if_ge (t := 65) hD rfl rfl ⟨by omega, by omega⟩ (fun c96 => ?_) (fun c96 => ?_)
      · refine gv_run 4 true hD (pc' := 69) (lv' := [(2, .inl z94), (0, .inr (.inr (some 0))), (1, .inl a1)]) (st' := [.inl ((-1) - z94), .inr (.inr (some 0))]) (h' := gr_h I J) (C := ((((True ∧ True) ∧ True) ∧ True) ∧ True)) rfl ⟨⟨⟨⟨trivial, trivial⟩, trivial⟩, trivial⟩, trivial⟩ ?_
        refine gv_run 1 true hD (pc' := 72) (lv' := [(2, .inl z94), (0, .inr (.inr (some 0))), (1, .inl a1)]) (st' := []) (h' := gz_up (gr_h I J) 0 104 (.inl (((-1) - z94)))) (C := (True ∧ True)) rfl ⟨trivial, trivial⟩ ?_
        refine gr_st hI FI rfl rfl ⟨⟨by show (-2147483648) ≤ _; omega, by show _ ≤ 2147483647; omega⟩, by show ((((-1) - z94)) = -2147483648 ∨ (((-1) - z94)) = 2147483647 ∨ -16 ≤ (((-1) - z94)) ∧ (((-1) - z94)) ≤ 32015); omega⟩ (fun I97 hI97 FI97 q98 p98 => ?_)
        have t99 := p98 0 71 (by decide)
        have t100 := p98 0 72 (by decide)
        have t101 := p98 0 73 (by decide)
        have t102 := p98 0 69 (by decide)
        have t103 := p98 0 6 (by decide)
        have t104 := p98 0 59 (by decide)
        have f105 := (show 0 ≤ I97 0 71 ∧ I97 0 71 ≤ 5 from (hI97 0 71).1)
        have f106 := (show 0 ≤ I97 0 72 ∧ I97 0 72 ≤ 1000 from (hI97 0 72).1)
        have f107 := (show 0 ≤ I97 0 73 ∧ I97 0 73 ≤ 1001 from (hI97 0 73).1)
        have f108 := (show 0 ≤ I97 0 69 ∧ I97 0 69 ≤ 1000 from (hI97 0 69).1)
        have f109 := (show (-1) ≤ I97 0 6 ∧ I97 0 6 ≤ 7 from (hI97 0 6).1)
        have f110 := (show 0 ≤ I97 0 59 ∧ I97 0 59 ≤ 2000 from (hI97 0 59).1)
        have f111 := (show (-2147483648) ≤ I97 0 104 ∧ I97 0 104 ≤ 2147483647 from (hI97 0 104).1)
        have A112 := gr_ATp_sf x7 p98 rfl
        refine gv_run 2 true hD (pc' := 105) (lv' := [(2, .inl z94), (0, .inr (.inr (some 0))), (1, .inl a1)]) (st' := [.inr (.inr (some 0))]) (h' := gr_h I97 J) (C := ((True ∧ True) ∧ True)) rfl ⟨⟨trivial, trivial⟩, trivial⟩ ?_
        obtain ⟨r113, h113, E113, P113⟩ := r_next_p (ws0 := ws0) (tb := tb) hws htb ext β N9 I97 J hI97   (by omega) A112.1.1 A112.1.2
        obtain ⟨I114, J115, rfl, hI114, g113, k113, ⟨rfl, q113⟩⟩ := P113
        have FI114 := gr_frt FI97 g113 rfl rfl
        have FJ115 := gr_fjt FJ k113 rfl rfl
        have t116 := g113 0 69 rfl
        have t117 := g113 0 6 rfl
        have t118 := g113 0 59 rfl
        have t119 := g113 0 104 rfl
        have f120 := (show 0 ≤ I114 0 71 ∧ I114 0 71 ≤ 5 from (hI114 0 71).1)
        have f121 := (show 0 ≤ I114 0 72 ∧ I114 0 72 ≤ 1000 from (hI114 0 72).1)
        have f122 := (show 0 ≤ I114 0 73 ∧ I114 0 73 ≤ 1001 from (hI114 0 73).1)
        have f123 := (show 0 ≤ I114 0 69 ∧ I114 0 69 ≤ 1000 from (hI114 0 69).1)
        have f124 := (show (-1) ≤ I114 0 6 ∧ I114 0 6 ≤ 7 from (hI114 0 6).1)
        have f125 := (show 0 ≤ I114 0 59 ∧ I114 0 59 ≤ 2000 from (hI114 0 59).1)
        have f126 := (show (-2147483648) ≤ I114 0 104 ∧ I114 0 104 ≤ 2147483647 from (hI114 0 104).1)
        have A127 := gr_ATp_nx A112 q113.2.2.2.2.2
        have t128 := gr_ATp_l A127
        refine gv_callV hD rfl (As := []) (st := []) rfl (by decide) rfl rfl (gr_lV hws rfl) (Nat.le_of_ble_eq_true rfl) (gz_Ev_mono (d := 10) (by decide) E113) ?_
        show gv_X _ _ (108, [(2, .inl z94), (0, .inr (.inr (some 0))), (1, .inl a1)], [], gr_sh ++ ext, gr_h I114 J115)
        refine gv_run 1 true hD (pc' := 109) (lv' := [(2, .inl z94), (0, .inr (.inr (some 0))), (1, .inl a1)]) (st' := [.inl 1]) (h' := gr_h I114 J115) (C := (True ∧ True)) rfl ⟨trivial, trivial⟩ ?_
        have b129 : (I114 0 71 = 5 ∨ I114 0 73 ≤ I114 0 69) ∧ (I114 0 72 ≤ I114 0 69) ∧ (I114 0 71 = 0 ∨ (I114 0 72 < I114 0 73 ∧ I114 0 72 < I114 0 69)) ∧ (I114 0 71 = 3 → 2 ≤ I114 0 73 - I114 0 72 ∧ I114 0 73 - I114 0 72 ≤ 14) ∧ (I114 0 72 ≤ I114 0 73) ∧ (I114 0 69 = I 0 69) ∧ (I 0 73 ≤ I114 0 73) ∧ (I 0 72 ≤ I114 0 72) ∧ (I114 0 59 - I114 0 72 ≤ I 0 59 - I 0 72) ∧ ((1 : Int) = 0 ∨ a1 = 1 ∨ (-16 ≤ I114 0 104 ∧ I114 0 104 ≤ 32015)) := by omega
        exact gv_zret hD rfl (by omega) ⟨I114, J115, rfl, hI114, FI114, FJ115, ⟨_, rfl, by omega, by omega, b129.1, b129.2.1, b129.2.2.1, b129.2.2.2.1, b129.2.2.2.2.1, b129.2.2.2.2.2.1, b129.2.2.2.2.2.2.1, b129.2.2.2.2.2.2.2.1, b129.2.2.2.2.2.2.2.2.1, b129.2.2.2.2.2.2.2.2.2, (Or.inl ⟨by omega, by have e9 : (gs_ctx β N9 I J a1 p9) = (gs_X β N9 p9) := (by unfold gs_ctx; (repeat first | rw [if_pos (by omega)] | rw [if_neg (by omega)])); rw [e9]; exact ⟨by omega, A127⟩⟩)⟩⟩
      · refine gv_run 2 true hD (pc' := 61) (lv' := [(2, .inl z94), (0, .inr (.inr (some 0))), (1, .inl a1)]) (st' := [.inl 5, .inr (.inr (some 0))]) (h' := gr_h I J) (C := ((True ∧ True) ∧ True)) rfl ⟨⟨trivial, trivial⟩, trivial⟩ ?_
        obtain ⟨r130, h130, E130, P130⟩ := r_no__p (ws0 := ws0) (tb := tb) hws htb ext β N9 p9 I J hI 5 ⟨by omega, by omega⟩ x7 (by omega)
        obtain ⟨I131, J132, rfl, hI131, g130, k130, ⟨z130, rfl, q130⟩⟩ := P130
        have FI131 := gr_frt FI g130 rfl rfl
        have FJ132 := gr_fjt FJ k130 rfl rfl
        have t133 := g130 0 71 rfl
        have t134 := g130 0 72 rfl
        have t135 := g130 0 73 rfl
        have t136 := g130 0 69 rfl
        have t137 := g130 0 6 rfl
        have t138 := g130 0 59 rfl
        have t139 := g130 0 104 rfl
        have f140 := (show 0 ≤ I131 0 71 ∧ I131 0 71 ≤ 5 from (hI131 0 71).1)
        have f141 := (show 0 ≤ I131 0 72 ∧ I131 0 72 ≤ 1000 from (hI131 0 72).1)
        have f142 := (show 0 ≤ I131 0 73 ∧ I131 0 73 ≤ 1001 from (hI131 0 73).1)
        have f143 := (show 0 ≤ I131 0 69 ∧ I131 0 69 ≤ 1000 from (hI131 0 69).1)
        have f144 := (show (-1) ≤ I131 0 6 ∧ I131 0 6 ≤ 7 from (hI131 0 6).1)
        have f145 := (show 0 ≤ I131 0 59 ∧ I131 0 59 ≤ 2000 from (hI131 0 59).1)
        have f146 := (show (-2147483648) ≤ I131 0 104 ∧ I131 0 104 ≤ 2147483647 from (hI131 0 104).1)
        have A147 := gr_ATp_F x7 g130 k130 rfl
        have t148 := gr_ATp_l A147
        refine gv_callV hD rfl (As := [.inl 5]) (st := []) rfl (by decide) rfl rfl (gr_lV hws rfl) (Nat.le_of_ble_eq_true rfl) (gz_Ev_mono (d := 2) (by decide) E130) ?_
        show gv_X _ _ (64, [(2, .inl z94), (0, .inr (.inr (some 0))), (1, .inl a1)], [.inl z130], gr_sh ++ ext, gr_h I131 J132)
        have b149 : (I131 0 71 = 5 ∨ I131 0 73 ≤ I131 0 69) ∧ (I131 0 72 ≤ I131 0 69) ∧ (I131 0 71 = 0 ∨ (I131 0 72 < I131 0 73 ∧ I131 0 72 < I131 0 69)) ∧ (I131 0 71 = 3 → 2 ≤ I131 0 73 - I131 0 72 ∧ I131 0 73 - I131 0 72 ≤ 14) ∧ (I131 0 72 ≤ I131 0 73) ∧ (I131 0 69 = I 0 69) ∧ (I 0 73 ≤ I131 0 73) ∧ (I 0 72 ≤ I131 0 72) ∧ (I131 0 59 - I131 0 72 ≤ I 0 59 - I 0 72) ∧ ((z130 : Int) = 0 ∨ a1 = 1 ∨ (-16 ≤ I131 0 104 ∧ I131 0 104 ≤ 32015)) := by omega
        exact gv_zret hD rfl (by omega) ⟨I131, J132, rfl, hI131, FI131, FJ132, ⟨_, rfl, by omega, by omega, b149.1, b149.2.1, b149.2.2.1, b149.2.2.2.1, b149.2.2.2.2.1, b149.2.2.2.2.2.1, b149.2.2.2.2.2.2.1, b149.2.2.2.2.2.2.2.1, b149.2.2.2.2.2.2.2.2.1, b149.2.2.2.2.2.2.2.2.2, (Or.inr ⟨by omega, by unfold gs_ctx; (repeat first | rw [if_pos (by omega)] | rw [if_neg (by omega)]); exact ⟨by omega, by omega⟩⟩)⟩⟩
  · have t150 := gr_ATp_k x7 (c := 3) ⟨by omega, by omega⟩
    refine gv_run 2 true hD (pc' := 10) (lv' := [(0, .inr (.inr (some 0))), (1, .inl a1)]) (st' := [.inr (.inr (some 0)), .inr (.inr (some 0))]) (h' := gr_h I J) (C := ((True ∧ True) ∧ True)) rfl ⟨⟨trivial, trivial⟩, trivial⟩ ?_
    obtain ⟨r151, h151, E151, P151⟩ := r_keeps_p (ws0 := ws0) (tb := tb) hws htb ext I J hI   (by omega) (by omega) (by omega) (by omega)
    obtain ⟨I152, J153, rfl, hI152, g151, k151, ⟨z151, rfl, q151⟩⟩ := P151
    have FI152 := gr_frt FI g151 rfl rfl
    have FJ153 := gr_fjt FJ k151 rfl rfl
    have t154 := g151 0 71 rfl
    have t155 := g151 0 72 rfl
    have t156 := g151 0 73 rfl
    have t157 := g151 0 69 rfl
    have t158 := g151 0 6 rfl
    have t159 := g151 0 104 rfl
    have f160 := (show 0 ≤ I152 0 71 ∧ I152 0 71 ≤ 5 from (hI152 0 71).1)
    have f161 := (show 0 ≤ I152 0 72 ∧ I152 0 72 ≤ 1000 from (hI152 0 72).1)
    have f162 := (show 0 ≤ I152 0 73 ∧ I152 0 73 ≤ 1001 from (hI152 0 73).1)
    have f163 := (show 0 ≤ I152 0 69 ∧ I152 0 69 ≤ 1000 from (hI152 0 69).1)
    have f164 := (show (-1) ≤ I152 0 6 ∧ I152 0 6 ≤ 7 from (hI152 0 6).1)
    have f165 := (show 0 ≤ I152 0 59 ∧ I152 0 59 ≤ 2000 from (hI152 0 59).1)
    have f166 := (show (-2147483648) ≤ I152 0 104 ∧ I152 0 104 ≤ 2147483647 from (hI152 0 104).1)
    have A167 := gr_ATp_F x7 g151 k151 rfl
    have t168 := gr_ATp_l A167
    refine gv_callV hD rfl (As := []) (st := [.inr (.inr (some 0))]) rfl (by decide) rfl rfl (gr_lV hws rfl) (Nat.le_of_ble_eq_true rfl) (gz_Ev_mono (d := 2) (by decide) E151) ?_
    show gv_X _ _ (13, [(0, .inr (.inr (some 0))), (1, .inl a1)], [.inl z151, .inr (.inr (some 0))], gr_sh ++ ext, gr_h I152 J153)
    refine gv_run 1 true hD (pc' := 16) (lv' := [(0, .inr (.inr (some 0))), (1, .inl a1)]) (st' := []) (h' := gz_up (gr_h I152 J153) 0 104 (.inl z151)) (C := (True ∧ True)) rfl ⟨trivial, trivial⟩ ?_
    refine gr_st hI152 FI152 rfl rfl ⟨⟨by show (-2147483648) ≤ _; omega, by show _ ≤ 2147483647; omega⟩, by show (z151 = -2147483648 ∨ z151 = 2147483647 ∨ -16 ≤ z151 ∧ z151 ≤ 32015); omega⟩ (fun I169 hI169 FI169 q170 p170 => ?_)
    have t171 := p170 0 71 (by decide)
    have t172 := p170 0 72 (by decide)
    have t173 := p170 0 73 (by decide)
    have t174 := p170 0 69 (by decide)
    have t175 := p170 0 6 (by decide)
    have t176 := p170 0 59 (by decide)
    have f177 := (show 0 ≤ I169 0 71 ∧ I169 0 71 ≤ 5 from (hI169 0 71).1)
    have f178 := (show 0 ≤ I169 0 72 ∧ I169 0 72 ≤ 1000 from (hI169 0 72).1)
    have f179 := (show 0 ≤ I169 0 73 ∧ I169 0 73 ≤ 1001 from (hI169 0 73).1)
    have f180 := (show 0 ≤ I169 0 69 ∧ I169 0 69 ≤ 1000 from (hI169 0 69).1)
    have f181 := (show (-1) ≤ I169 0 6 ∧ I169 0 6 ≤ 7 from (hI169 0 6).1)
    have f182 := (show 0 ≤ I169 0 59 ∧ I169 0 59 ≤ 2000 from (hI169 0 59).1)
    have f183 := (show (-2147483648) ≤ I169 0 104 ∧ I169 0 104 ≤ 2147483647 from (hI169 0 104).1)
    have A184 := gr_ATp_sf A167 p170 rfl
    refine gv_run 2 true hD (pc' := 105) (lv' := [(0, .inr (.inr (some 0))), (1, .inl a1)]) (st' := [.inr (.inr (some 0))]) (h' := gr_h I169 J153) (C := ((True ∧ True) ∧ True)) rfl ⟨⟨trivial, trivial⟩, trivial⟩ ?_
    obtain ⟨r185, h185, E185, P185⟩ := r_next_p (ws0 := ws0) (tb := tb) hws htb ext β N9 I169 J153 hI169   (by omega) A184.1.1 A184.1.2
    obtain ⟨I186, J187, rfl, hI186, g185, k185, ⟨rfl, q185⟩⟩ := P185
    have FI186 := gr_frt FI169 g185 rfl rfl
    have FJ187 := gr_fjt FJ153 k185 rfl rfl
    have t188 := g185 0 69 rfl
    have t189 := g185 0 6 rfl
    have t190 := g185 0 59 rfl
    have t191 := g185 0 104 rfl
    have f192 := (show 0 ≤ I186 0 71 ∧ I186 0 71 ≤ 5 from (hI186 0 71).1)
    have f193 := (show 0 ≤ I186 0 72 ∧ I186 0 72 ≤ 1000 from (hI186 0 72).1)
    have f194 := (show 0 ≤ I186 0 73 ∧ I186 0 73 ≤ 1001 from (hI186 0 73).1)
    have f195 := (show 0 ≤ I186 0 69 ∧ I186 0 69 ≤ 1000 from (hI186 0 69).1)
    have f196 := (show (-1) ≤ I186 0 6 ∧ I186 0 6 ≤ 7 from (hI186 0 6).1)
    have f197 := (show 0 ≤ I186 0 59 ∧ I186 0 59 ≤ 2000 from (hI186 0 59).1)
    have f198 := (show (-2147483648) ≤ I186 0 104 ∧ I186 0 104 ≤ 2147483647 from (hI186 0 104).1)
    have A199 := gr_ATp_nx A184 q185.2.2.2.2.2
    have t200 := gr_ATp_l A199
    refine gv_callV hD rfl (As := []) (st := []) rfl (by decide) rfl rfl (gr_lV hws rfl) (Nat.le_of_ble_eq_true rfl) (gz_Ev_mono (d := 10) (by decide) E185) ?_
    show gv_X _ _ (108, [(0, .inr (.inr (some 0))), (1, .inl a1)], [], gr_sh ++ ext, gr_h I186 J187)
    refine gv_run 1 true hD (pc' := 109) (lv' := [(0, .inr (.inr (some 0))), (1, .inl a1)]) (st' := [.inl 1]) (h' := gr_h I186 J187) (C := (True ∧ True)) rfl ⟨trivial, trivial⟩ ?_
    have b201 : (I186 0 71 = 5 ∨ I186 0 73 ≤ I186 0 69) ∧ (I186 0 72 ≤ I186 0 69) ∧ (I186 0 71 = 0 ∨ (I186 0 72 < I186 0 73 ∧ I186 0 72 < I186 0 69)) ∧ (I186 0 71 = 3 → 2 ≤ I186 0 73 - I186 0 72 ∧ I186 0 73 - I186 0 72 ≤ 14) ∧ (I186 0 72 ≤ I186 0 73) ∧ (I186 0 69 = I 0 69) ∧ (I 0 73 ≤ I186 0 73) ∧ (I 0 72 ≤ I186 0 72) ∧ (I186 0 59 - I186 0 72 ≤ I 0 59 - I 0 72) ∧ ((1 : Int) = 0 ∨ a1 = 1 ∨ (-16 ≤ I186 0 104 ∧ I186 0 104 ≤ 32015)) := by omega
    exact gv_zret hD rfl (by omega) ⟨I186, J187, rfl, hI186, FI186, FJ187, ⟨_, rfl, by omega, by omega, b201.1, b201.2.1, b201.2.2.1, b201.2.2.2.1, b201.2.2.2.2.1, b201.2.2.2.2.2.1, b201.2.2.2.2.2.2.1, b201.2.2.2.2.2.2.2.1, b201.2.2.2.2.2.2.2.2.1, b201.2.2.2.2.2.2.2.2.2, (Or.inl ⟨by omega, by have e9 : (gs_ctx β N9 I J a1 p9) = (gs_X β N9 p9) := (by unfold gs_ctx; (repeat first | rw [if_pos (by omega)] | rw [if_neg (by omega)])); rw [e9]; exact ⟨by omega, A199⟩⟩)⟩⟩
set_option maxHeartbeats 4000000 in
set_option maxRecDepth 100000 in
theorem r_side_p {ws0 : List Cond} {tb : String → gz_T} (hws : ∀ w ∈ gr_ws, w ∈ ws0) (htb : tb RX13 = gr_T) (ext : gz_Sh) (β : Int → Int) (N9 : Int) (p9 : Int) (I : gr_I) (J : gr_J) (hI : gr_Inv I) (a1 : Int) (ha1 : 0 ≤ a1 ∧ a1 ≤ 3) (x0 : I 0 71 = 5 ∨ I 0 73 ≤ I 0 69) (x1 : I 0 72 ≤ I 0 69) (x2 : I 0 71 = 0 ∨ (I 0 72 < I 0 73 ∧ I 0 72 < I 0 69)) (x3 : I 0 71 = 3 → 2 ≤ I 0 73 - I 0 72 ∧ I 0 73 - I 0 72 ≤ 14) (x4 : I 0 72 ≤ I 0 73) (x5 : 0 ≤ I 0 6) (x6 : I 0 59 + I 0 69 - I 0 72 ≤ 1900) (x7 : gr_ATp β N9 p9 I J) (x8 : 0 ≤ p9) : ∃ r h', gz_Ev ws0 tb 12 (yX13_side, cX13_side, 3, (some .boolean)) [.inr (.inr (some 0)), .inl a1] (gr_sh ++ ext) (gr_h I J) r (gr_sh ++ ext) h' 0 0 ∧ (∃ (I' : gr_I) (J' : gr_J), h' = gr_h I' J' ∧ gr_Inv I' ∧ gr_fr [59, 71, 72, 73, 74, 75, 76, 77, 104] [51, 63] I I' ∧ gr_fj [59, 71, 72, 73, 74, 75, 76, 77, 104] [51, 63] J J' ∧ (∃ z : Int, r = some (.inl z) ∧ 0 ≤ z ∧ z ≤ 1 ∧ (I' 0 71 = 5 ∨ I' 0 73 ≤ I' 0 69) ∧ (I' 0 72 ≤ I' 0 69) ∧ (I' 0 71 = 0 ∨ (I' 0 72 < I' 0 73 ∧ I' 0 72 < I' 0 69)) ∧ (I' 0 71 = 3 → 2 ≤ I' 0 73 - I' 0 72 ∧ I' 0 73 - I' 0 72 ≤ 14) ∧ (I' 0 72 ≤ I' 0 73) ∧ (I' 0 69 = I 0 69) ∧ (I 0 73 ≤ I' 0 73) ∧ (I 0 72 ≤ I' 0 72) ∧ (I' 0 59 - I' 0 72 ≤ I 0 59 - I 0 72) ∧ (gs_Or z (0 ≤ (gs_sd β N9 I J 3 p9) ∧ gr_ATp β N9 (gs_sd β N9 I J 3 p9) I' J') ((gs_sd β N9 I J 3 p9) < 0 ∧ I' 0 77 = -1 - (gs_sd β N9 I J 3 p9))))) := by
  have FI : gr_fr [59, 71, 72, 73, 74, 75, 76, 77, 104] [51, 63] I I := fun _ _ _ => rfl
  have FJ : gr_fj [59, 71, 72, 73, 74, 75, 76, 77, 104] [51, 63] J J := fun _ _ _ => rfl
  have hD : gv_D (gr_E ws0 tb 11 (yX13_side, cX13_side, 3, (some .boolean)) kX13_side) := gq_ok oX13_side
  refine gr_ev (d := 11) (l := kX13_side) (Po := fun r h' => (∃ (I' : gr_I) (J' : gr_J), h' = gr_h I' J' ∧ gr_Inv I' ∧ gr_fr [59, 71, 72, 73, 74, 75, 76, 77, 104] [51, 63] I I' ∧ gr_fj [59, 71, 72, 73, 74, 75, 76, 77, 104] [51, 63] J J' ∧ (∃ z : Int, r = some (.inl z) ∧ 0 ≤ z ∧ z ≤ 1 ∧ (I' 0 71 = 5 ∨ I' 0 73 ≤ I' 0 69) ∧ (I' 0 72 ≤ I' 0 69) ∧ (I' 0 71 = 0 ∨ (I' 0 72 < I' 0 73 ∧ I' 0 72 < I' 0 69)) ∧ (I' 0 71 = 3 → 2 ≤ I' 0 73 - I' 0 72 ∧ I' 0 73 - I' 0 72 ≤ 14) ∧ (I' 0 72 ≤ I' 0 73) ∧ (I' 0 69 = I 0 69) ∧ (I 0 73 ≤ I' 0 73) ∧ (I 0 72 ≤ I' 0 72) ∧ (I' 0 59 - I' 0 72 ≤ I 0 59 - I 0 72) ∧ (gs_Or z (0 ≤ (gs_sd β N9 I J 3 p9) ∧ gr_ATp β N9 (gs_sd β N9 I J 3 p9) I' J') ((gs_sd β N9 I J 3 p9) < 0 ∧ I' 0 77 = -1 - (gs_sd β N9 I J 3 p9)))))) htb rfl (Nat.le_of_ble_eq_true rfl) ?_
  have tAT := gr_ATp_l x7
  have f1 := (show 0 ≤ I 0 71 ∧ I 0 71 ≤ 5 from (hI 0 71).1)
  have f2 := (show 0 ≤ I 0 72 ∧ I 0 72 ≤ 1000 from (hI 0 72).1)
  have f3 := (show 0 ≤ I 0 73 ∧ I 0 73 ≤ 1001 from (hI 0 73).1)
  have f4 := (show 0 ≤ I 0 69 ∧ I 0 69 ≤ 1000 from (hI 0 69).1)
  have f5 := (show (-1) ≤ I 0 6 ∧ I 0 6 ≤ 7 from (hI 0 6).1)
  have f6 := (show 0 ≤ I 0 59 ∧ I 0 59 ≤ 2000 from (hI 0 59).1)
  have L2 : ∀ (n : Nat) (I7 : gr_I) (J8 : gr_J) (v2_9 : Int) (p_9 : Int), (4 - v2_9).toNat < n → gr_Inv I7 → gr_fr [59, 71, 72, 73, 74, 75, 76, 77, 104] [51, 63] I I7 → gr_fj [59, 71, 72, 73, 74, 75, 76, 77, 104] [51, 63] J J8 → ((0 ≤ a1 ∧ a1 ≤ 3) ∧ (0 ≤ v2_9 ∧ v2_9 ≤ 3) ∧ (0 ≤ p_9) ∧ (I7 0 71 = 5 ∨ I7 0 73 ≤ I7 0 69) ∧ (I7 0 72 ≤ I7 0 69) ∧ (I7 0 71 = 0 ∨ (I7 0 72 < I7 0 73 ∧ I7 0 72 < I7 0 69)) ∧ (I7 0 71 = 3 → 2 ≤ I7 0 73 - I7 0 72 ∧ I7 0 73 - I7 0 72 ≤ 14) ∧ (I7 0 72 ≤ I7 0 73) ∧ (I7 0 69 = I 0 69) ∧ (I 0 73 ≤ I7 0 73) ∧ (I 0 72 ≤ I7 0 72) ∧ (0 ≤ I7 0 6) ∧ (I7 0 59 - I7 0 72 ≤ I 0 59 - I 0 72)) → (gr_ATp β N9 p_9 I7 J8) → ((gs_sd β N9 I J 3 p9) = gs_sd β N9 I J (Int.toNat (3 - v2_9)) p_9) → gv_X (gr_E ws0 tb 11 (yX13_side, cX13_side, 3, (some .boolean)) kX13_side) (gv_Q cX13_side (some .boolean) (gr_sh ++ ext) (fun r h' => (∃ (I' : gr_I) (J' : gr_J), h' = gr_h I' J' ∧ gr_Inv I' ∧ gr_fr [59, 71, 72, 73, 74, 75, 76, 77, 104] [51, 63] I I' ∧ gr_fj [59, 71, 72, 73, 74, 75, 76, 77, 104] [51, 63] J J' ∧ (∃ z : Int, r = some (.inl z) ∧ 0 ≤ z ∧ z ≤ 1 ∧ (I' 0 71 = 5 ∨ I' 0 73 ≤ I' 0 69) ∧ (I' 0 72 ≤ I' 0 69) ∧ (I' 0 71 = 0 ∨ (I' 0 72 < I' 0 73 ∧ I' 0 72 < I' 0 69)) ∧ (I' 0 71 = 3 → 2 ≤ I' 0 73 - I' 0 72 ∧ I' 0 73 - I' 0 72 ≤ 14) ∧ (I' 0 72 ≤ I' 0 73) ∧ (I' 0 69 = I 0 69) ∧ (I 0 73 ≤ I' 0 73) ∧ (I 0 72 ≤ I' 0 72) ∧ (I' 0 59 - I' 0 72 ≤ I 0 59 - I 0 72) ∧ (gs_Or z (0 ≤ (gs_sd β N9 I J 3 p9) ∧ gr_ATp β N9 (gs_sd β N9 I J 3 p9) I' J') ((gs_sd β N9 I J 3 p9) < 0 ∧ I' 0 77 = -1 - (gs_sd β N9 I J 3 p9))))))) (2, [(0, .inr (.inr (some 0))), (1, .inl a1), (2, .inl v2_9)], [], gr_sh ++ ext, gr_h I7 J8) := by
    intro n
    induction n with
    | zero => intro I7 J8 v2_9 p_9 hn; omega
    | succ n ih2 =>
      intro I7 J8 v2_9 p_9 hn hI7 FI7 FJ8 m_9 e1_9 e2_9
      obtain ⟨ha1_9, hv2_9, e0_9, e3_9, e4_9, e5_9, e6_9, e7_9, e8_9, e9_9, e10_9, e11_9, e12_9⟩ := m_9
      have f10 := (show 0 ≤ I7 0 71 ∧ I7 0 71 ≤ 5 from (hI7 0 71).1)
      have f11 := (show 0 ≤ I7 0 72 ∧ I7 0 72 ≤ 1000 from (hI7 0 72).1)
      have f12 := (show 0 ≤ I7 0 73 ∧ I7 0 73 ≤ 1001 from (hI7 0 73).1)
      have f13 := (show 0 ≤ I7 0 69 ∧ I7 0 69 ≤ 1000 from (hI7 0 69).1)
      have f14 := (show (-1) ≤ I7 0 6 ∧ I7 0 6 ≤ 7 from (hI7 0 6).1)
      have f15 := (show 0 ≤ I7 0 59 ∧ I7 0 59 ≤ 2000 from (hI7 0 59).1)
      have t16 := gr_ATp_l e1_9
      have L66 : ∀ (n : Nat) (I17 : gr_I) (J18 : gr_J) (v2_19 : Int) (p_19 : Int), (4 - v2_19).toNat < n → gr_Inv I17 → gr_fr [59, 71, 72, 73, 74, 75, 76, 77, 104] [51, 63] I I17 → gr_fj [59, 71, 72, 73, 74, 75, 76, 77, 104] [51, 63] J J18 → ((0 ≤ a1 ∧ a1 ≤ 3) ∧ (0 ≤ v2_19 ∧ v2_19 ≤ 3) ∧ (0 ≤ p_19) ∧ (I17 0 71 = 5 ∨ I17 0 73 ≤ I17 0 69) ∧ (I17 0 72 ≤ I17 0 69) ∧ (I17 0 71 = 0 ∨ (I17 0 72 < I17 0 73 ∧ I17 0 72 < I17 0 69)) ∧ (I17 0 71 = 3 → 2 ≤ I17 0 73 - I17 0 72 ∧ I17 0 73 - I17 0 72 ≤ 14) ∧ (I17 0 72 ≤ I17 0 73) ∧ (I17 0 69 = I 0 69) ∧ (I 0 73 ≤ I17 0 73) ∧ (I 0 72 ≤ I17 0 72) ∧ (0 ≤ I17 0 6) ∧ (I17 0 59 - I17 0 72 ≤ I 0 59 - I 0 72)) → (gr_ATp β N9 p_19 I17 J18) → ((gs_sd β N9 I J 3 p9) = p_19) → gv_X (gr_E ws0 tb 11 (yX13_side, cX13_side, 3, (some .boolean)) kX13_side) (gv_Q cX13_side (some .boolean) (gr_sh ++ ext) (fun r h' => (∃ (I' : gr_I) (J' : gr_J), h' = gr_h I' J' ∧ gr_Inv I' ∧ gr_fr [59, 71, 72, 73, 74, 75, 76, 77, 104] [51, 63] I I' ∧ gr_fj [59, 71, 72, 73, 74, 75, 76, 77, 104] [51, 63] J J' ∧ (∃ z : Int, r = some (.inl z) ∧ 0 ≤ z ∧ z ≤ 1 ∧ (I' 0 71 = 5 ∨ I' 0 73 ≤ I' 0 69) ∧ (I' 0 72 ≤ I' 0 69) ∧ (I' 0 71 = 0 ∨ (I' 0 72 < I' 0 73 ∧ I' 0 72 < I' 0 69)) ∧ (I' 0 71 = 3 → 2 ≤ I' 0 73 - I' 0 72 ∧ I' 0 73 - I' 0 72 ≤ 14) ∧ (I' 0 72 ≤ I' 0 73) ∧ (I' 0 69 = I 0 69) ∧ (I 0 73 ≤ I' 0 73) ∧ (I 0 72 ≤ I' 0 72) ∧ (I' 0 59 - I' 0 72 ≤ I 0 59 - I 0 72) ∧ (gs_Or z (0 ≤ (gs_sd β N9 I J 3 p9) ∧ gr_ATp β N9 (gs_sd β N9 I J 3 p9) I' J') ((gs_sd β N9 I J 3 p9) < 0 ∧ I' 0 77 = -1 - (gs_sd β N9 I J 3 p9))))))) (66, [(0, .inr (.inr (some 0))), (1, .inl a1), (2, .inl v2_19)], [], gr_sh ++ ext, gr_h I17 J18) := by
        intro n
        induction n with
        | zero => intro I17 J18 v2_19 p_19 hn; omega
        | succ n ih66 =>
          intro I17 J18 v2_19 p_19 hn hI17 FI17 FJ18 m_19 e1_19 e2_19
          clear ha1_9 hv2_9 e0_9 e3_9 e4_9 e5_9 e6_9 e7_9 e8_9 e9_9 e10_9 e11_9 e12_9 f10 f11 f12 f13 f14 f15 t16
          obtain ⟨ha1_19, hv2_19, e0_19, e3_19, e4_19, e5_19, e6_19, e7_19, e8_19, e9_19, e10_19, e11_19, e12_19⟩ := m_19
          have f20 := (show 0 ≤ I17 0 71 ∧ I17 0 71 ≤ 5 from (hI17 0 71).1)
          have f21 := (show 0 ≤ I17 0 72 ∧ I17 0 72 ≤ 1000 from (hI17 0 72).1)
          have f22 := (show 0 ≤ I17 0 73 ∧ I17 0 73 ≤ 1001 from (hI17 0 73).1)
          have f23 := (show 0 ≤ I17 0 69 ∧ I17 0 69 ≤ 1000 from (hI17 0 69).1)
          have f24 := (show (-1) ≤ I17 0 6 ∧ I17 0 6 ≤ 7 from (hI17 0 6).1)
          have f25 := (show 0 ≤ I17 0 59 ∧ I17 0 59 ≤ 2000 from (hI17 0 59).1)
          have t26 := gr_ATp_l e1_19
          refine gv_run 2 true hD (pc' := 68) (lv' := [(0, .inr (.inr (some 0))), (1, .inl a1), (2, .inl v2_19)]) (st' := [.inl 3, .inl v2_19]) (h' := gr_h I17 J18) (C := ((True ∧ True) ∧ True)) rfl ⟨⟨trivial, trivial⟩, trivial⟩ ?_
          refine gv_icmp_ge (t := 88) hD rfl rfl ⟨⟨by omega, by omega⟩, ⟨by omega, by omega⟩⟩ (fun c27 => ?_) (fun c27 => ?_)
          · refine gv_run 1 true hD (pc' := 89) (lv' := [(0, .inr (.inr (some 0))), (1, .inl a1), (2, .inl v2_19)]) (st' := [.inl 1]) (h' := gr_h I17 J18) (C := (True ∧ True)) rfl ⟨trivial, trivial⟩ ?_
            have b28 : (I17 0 71 = 5 ∨ I17 0 73 ≤ I17 0 69) ∧ (I17 0 72 ≤ I17 0 69) ∧ (I17 0 71 = 0 ∨ (I17 0 72 < I17 0 73 ∧ I17 0 72 < I17 0 69)) ∧ (I17 0 71 = 3 → 2 ≤ I17 0 73 - I17 0 72 ∧ I17 0 73 - I17 0 72 ≤ 14) ∧ (I17 0 72 ≤ I17 0 73) ∧ (I17 0 69 = I 0 69) ∧ (I 0 73 ≤ I17 0 73) ∧ (I 0 72 ≤ I17 0 72) ∧ (I17 0 59 - I17 0 72 ≤ I 0 59 - I 0 72) := by omega
            exact gv_zret hD rfl (by omega) ⟨I17, J18, rfl, hI17, FI17, FJ18, ⟨_, rfl, by omega, by omega, b28.1, b28.2.1, b28.2.2.1, b28.2.2.2.1, b28.2.2.2.2.1, b28.2.2.2.2.2.1, b28.2.2.2.2.2.2.1, b28.2.2.2.2.2.2.2.1, b28.2.2.2.2.2.2.2.2, (Or.inl ⟨by omega, by rw [e2_19]; exact ⟨by omega, e1_19⟩⟩)⟩⟩
          · refine gv_run 7 true hD (pc' := 84) (lv' := [(2, .inl (v2_19 + 1)), (0, .inr (.inr (some 0))), (1, .inl a1)]) (st' := [.inl 2147483647, .inl (a1 + v2_19), .inr (.inr (some 63))]) (h' := gr_h I17 J18) (C := (((((((True ∧ True) ∧ True) ∧ True) ∧ True) ∧ True) ∧ True) ∧ True)) rfl ⟨⟨⟨⟨⟨⟨⟨trivial, trivial⟩, trivial⟩, trivial⟩, trivial⟩, trivial⟩, trivial⟩, trivial⟩ ?_
            refine gv_run 1 true hD (pc' := 85) (lv' := [(2, .inl (v2_19 + 1)), (0, .inr (.inr (some 0))), (1, .inl a1)]) (st' := []) (h' := gz_up (gr_h I17 J18) 63 (Int.toNat ((a1 + v2_19))) (.inl 2147483647)) (C := (True ∧ (0 ≤ (a1 + v2_19) ∧ (a1 + v2_19) < ((6 : Nat) : Int)))) rfl ⟨trivial, ⟨by omega, by omega⟩⟩ ?_
            refine gr_st hI17 FI17 rfl rfl ⟨⟨by show (-2147483648) ≤ _; omega, by show _ ≤ 2147483647; omega⟩, by show (2147483647 = -2147483648 ∨ 2147483647 = 2147483647 ∨ -16 ≤ 2147483647 ∧ 2147483647 ≤ 32015); omega⟩ (fun I29 hI29 FI29 q30 p30 => ?_)
            have t31 := p30 0 71 (fun q => absurd q.1 (by decide))
            have t32 := p30 0 72 (fun q => absurd q.1 (by decide))
            have t33 := p30 0 73 (fun q => absurd q.1 (by decide))
            have t34 := p30 0 69 (fun q => absurd q.1 (by decide))
            have t35 := p30 0 6 (fun q => absurd q.1 (by decide))
            have t36 := p30 0 59 (fun q => absurd q.1 (by decide))
            have f37 := (show 0 ≤ I29 0 71 ∧ I29 0 71 ≤ 5 from (hI29 0 71).1)
            have f38 := (show 0 ≤ I29 0 72 ∧ I29 0 72 ≤ 1000 from (hI29 0 72).1)
            have f39 := (show 0 ≤ I29 0 73 ∧ I29 0 73 ≤ 1001 from (hI29 0 73).1)
            have f40 := (show 0 ≤ I29 0 69 ∧ I29 0 69 ≤ 1000 from (hI29 0 69).1)
            have f41 := (show (-1) ≤ I29 0 6 ∧ I29 0 6 ≤ 7 from (hI29 0 6).1)
            have f42 := (show 0 ≤ I29 0 59 ∧ I29 0 59 ≤ 2000 from (hI29 0 59).1)
            have A43 := gr_ATp_sr e1_19 p30 rfl
            refine gv_run 1 true hD (pc' := 66) (lv' := [(2, .inl (v2_19 + 1)), (0, .inr (.inr (some 0))), (1, .inl a1)]) (st' := []) (h' := gr_h I29 J18) (C := (True ∧ True)) rfl ⟨trivial, trivial⟩ ?_
            refine gv_pick [1, 2, 0] rfl ?_
            exact ih66 I29 J18 (v2_19 + 1) p_19 (by omega) hI29 FI29 FJ18 (by omega) A43 e2_19
      have f44 := (show 0 ≤ I7 0 71 ∧ I7 0 71 ≤ 5 from (hI7 0 71).1)
      refine gv_run 3 true hD (pc' := 7) (lv' := [(0, .inr (.inr (some 0))), (1, .inl a1), (2, .inl v2_9)]) (st' := [.inl 3, .inl (I7 0 71)]) (h' := gr_h I7 J8) (C := (((True ∧ True) ∧ True) ∧ True)) rfl ⟨⟨⟨trivial, trivial⟩, trivial⟩, trivial⟩ ?_
      refine gv_icmp_eq (t := 27) hD rfl rfl ⟨⟨by omega, by omega⟩, ⟨by omega, by omega⟩⟩ (fun c45 => ?_) (fun c45 => ?_)
      · have t46 := gr_ATp_k e1_9 (c := 3) ⟨by omega, by omega⟩
        refine gv_run 2 true hD (pc' := 29) (lv' := [(0, .inr (.inr (some 0))), (1, .inl a1), (2, .inl v2_9)]) (st' := [.inl 3, .inl v2_9]) (h' := gr_h I7 J8) (C := ((True ∧ True) ∧ True)) rfl ⟨⟨trivial, trivial⟩, trivial⟩ ?_
        refine gv_icmp_ne (t := 38) hD rfl rfl ⟨⟨by omega, by omega⟩, ⟨by omega, by omega⟩⟩ (fun c47 => ?_) (fun c47 => ?_)
        · refine gv_run 2 true hD (pc' := 40) (lv' := [(0, .inr (.inr (some 0))), (1, .inl a1), (2, .inl v2_9)]) (st' := [.inl 1, .inr (.inr (some 0))]) (h' := gr_h I7 J8) (C := ((True ∧ True) ∧ True)) rfl ⟨⟨trivial, trivial⟩, trivial⟩ ?_
          obtain ⟨r48, h48, E48, P48⟩ := r_context_p (ws0 := ws0) (tb := tb) hws htb ext β N9 p_9 I7 J8 hI7 1 ⟨by omega, by omega⟩ (by omega) (by omega) (by omega) (by omega) (by omega) (by omega) (by omega) e1_9 (by omega)
          obtain ⟨I49, J50, rfl, hI49, g48, k48, ⟨z48, rfl, q48⟩⟩ := P48
          have FI49 := gr_frt FI7 g48 rfl rfl
          have FJ50 := gr_fjt FJ8 k48 rfl rfl
          have t51 := g48 0 69 rfl
          have t52 := g48 0 6 rfl
          have f53 := (show 0 ≤ I49 0 71 ∧ I49 0 71 ≤ 5 from (hI49 0 71).1)
          have f54 := (show 0 ≤ I49 0 72 ∧ I49 0 72 ≤ 1000 from (hI49 0 72).1)
          have f55 := (show 0 ≤ I49 0 73 ∧ I49 0 73 ≤ 1001 from (hI49 0 73).1)
          have f56 := (show 0 ≤ I49 0 69 ∧ I49 0 69 ≤ 1000 from (hI49 0 69).1)
          have f57 := (show (-1) ≤ I49 0 6 ∧ I49 0 6 ≤ 7 from (hI49 0 6).1)
          have f58 := (show 0 ≤ I49 0 59 ∧ I49 0 59 ≤ 2000 from (hI49 0 59).1)
          refine gv_callV hD rfl (As := [.inl 1]) (st := []) rfl (by decide) rfl rfl (gr_lV hws rfl) (Nat.le_of_ble_eq_true rfl) (gz_Ev_mono (d := 11) (by decide) E48) ?_
          show gv_X _ _ (43, [(0, .inr (.inr (some 0))), (1, .inl a1), (2, .inl v2_9)], [.inl z48], gr_sh ++ ext, gr_h I49 J50)
          refine gv_if_ne (t := 48) hD rfl rfl ⟨by omega, by omega⟩ (fun c59 => ?_) (fun c59 => ?_)
          · have Q60 := q48.2.2.2.2.2.2.2.2.2.2.2.2
            rw [gs_ctx_eq (FI7 0 6 rfl) (fun k => (FI7 15 k rfl)) (fun k => (FJ8 22 k rfl))] at Q60
            obtain ⟨u60, A60⟩ := gs_or1 Q60 (by omega)
            have t61 := gr_ATp_l A60
            refine gv_run 7 true hD (pc' := 59) (lv' := [(2, .inl (v2_9 + 1)), (0, .inr (.inr (some 0))), (1, .inl a1)]) (st' := [.inr (.inr (some 0)), .inl (a1 + v2_9), .inr (.inr (some 63))]) (h' := gr_h I49 J50) (C := (((((((True ∧ True) ∧ True) ∧ True) ∧ True) ∧ True) ∧ True) ∧ True)) rfl ⟨⟨⟨⟨⟨⟨⟨trivial, trivial⟩, trivial⟩, trivial⟩, trivial⟩, trivial⟩, trivial⟩, trivial⟩ ?_
            have f62 := (show ((-2147483648) ≤ I49 0 104 ∧ I49 0 104 ≤ 2147483647) ∧ ((I49 0 104) = -2147483648 ∨ (I49 0 104) = 2147483647 ∨ -16 ≤ (I49 0 104) ∧ (I49 0 104) ≤ 32015) from hI49 0 104)
            refine gv_run 2 true hD (pc' := 63) (lv' := [(2, .inl (v2_9 + 1)), (0, .inr (.inr (some 0))), (1, .inl a1)]) (st' := []) (h' := gz_up (gr_h I49 J50) 63 (Int.toNat ((a1 + v2_9))) (.inl (I49 0 104))) (C := ((True ∧ True) ∧ (0 ≤ (a1 + v2_9) ∧ (a1 + v2_9) < ((6 : Nat) : Int)))) rfl ⟨⟨trivial, trivial⟩, ⟨by omega, by omega⟩⟩ ?_
            refine gr_st hI49 FI49 rfl rfl ⟨⟨by show (-2147483648) ≤ _; omega, by show _ ≤ 2147483647; omega⟩, by show ((I49 0 104) = -2147483648 ∨ (I49 0 104) = 2147483647 ∨ -16 ≤ (I49 0 104) ∧ (I49 0 104) ≤ 32015); omega⟩ (fun I63 hI63 FI63 q64 p64 => ?_)
            have t65 := p64 0 71 (fun q => absurd q.1 (by decide))
            have t66 := p64 0 72 (fun q => absurd q.1 (by decide))
            have t67 := p64 0 73 (fun q => absurd q.1 (by decide))
            have t68 := p64 0 69 (fun q => absurd q.1 (by decide))
            have t69 := p64 0 6 (fun q => absurd q.1 (by decide))
            have t70 := p64 0 59 (fun q => absurd q.1 (by decide))
            have f71 := (show 0 ≤ I63 0 71 ∧ I63 0 71 ≤ 5 from (hI63 0 71).1)
            have f72 := (show 0 ≤ I63 0 72 ∧ I63 0 72 ≤ 1000 from (hI63 0 72).1)
            have f73 := (show 0 ≤ I63 0 73 ∧ I63 0 73 ≤ 1001 from (hI63 0 73).1)
            have f74 := (show 0 ≤ I63 0 69 ∧ I63 0 69 ≤ 1000 from (hI63 0 69).1)
            have f75 := (show (-1) ≤ I63 0 6 ∧ I63 0 6 ≤ 7 from (hI63 0 6).1)
            have f76 := (show 0 ≤ I63 0 59 ∧ I63 0 59 ≤ 2000 from (hI63 0 59).1)
            have A77 := gr_ATp_sr A60 p64 rfl
            refine gv_run 1 true hD (pc' := 2) (lv' := [(2, .inl (v2_9 + 1)), (0, .inr (.inr (some 0))), (1, .inl a1)]) (st' := []) (h' := gr_h I63 J50) (C := (True ∧ True)) rfl ⟨trivial, trivial⟩ ?_
            refine gv_pick [1, 2, 0] rfl ?_
            exact ih2 I63 J50 (v2_9 + 1) (gs_ctx β N9 I J 1 p_9) (by omega) hI63 FI63 FJ50 (by omega) A77 (e2_9.trans (gs_sd_s (by omega) (by omega) (by omega)))
          · have Q78 := q48.2.2.2.2.2.2.2.2.2.2.2.2
            rw [gs_ctx_eq (FI7 0 6 rfl) (fun k => (FI7 15 k rfl)) (fun k => (FJ8 22 k rfl))] at Q78
            obtain ⟨u78, u78_⟩ := gs_or0 Q78 (by omega)
            refine gv_run 1 true hD (pc' := 47) (lv' := [(0, .inr (.inr (some 0))), (1, .inl a1), (2, .inl v2_9)]) (st' := [.inl 0]) (h' := gr_h I49 J50) (C := (True ∧ True)) rfl ⟨trivial, trivial⟩ ?_
            have b79 : (I49 0 71 = 5 ∨ I49 0 73 ≤ I49 0 69) ∧ (I49 0 72 ≤ I49 0 69) ∧ (I49 0 71 = 0 ∨ (I49 0 72 < I49 0 73 ∧ I49 0 72 < I49 0 69)) ∧ (I49 0 71 = 3 → 2 ≤ I49 0 73 - I49 0 72 ∧ I49 0 73 - I49 0 72 ≤ 14) ∧ (I49 0 72 ≤ I49 0 73) ∧ (I49 0 69 = I 0 69) ∧ (I 0 73 ≤ I49 0 73) ∧ (I 0 72 ≤ I49 0 72) ∧ (I49 0 59 - I49 0 72 ≤ I 0 59 - I 0 72) := by omega
            exact gv_zret hD rfl (by omega) ⟨I49, J50, rfl, hI49, FI49, FJ50, ⟨_, rfl, by omega, by omega, b79.1, b79.2.1, b79.2.2.1, b79.2.2.2.1, b79.2.2.2.2.1, b79.2.2.2.2.2.1, b79.2.2.2.2.2.2.1, b79.2.2.2.2.2.2.2.1, b79.2.2.2.2.2.2.2.2, (Or.inr ⟨by omega, by rw [e2_9, gs_sd_c (by omega) (by omega) (by omega)]; exact ⟨by omega, by omega⟩⟩)⟩⟩
        · refine gv_run 2 true hD (pc' := 34) (lv' := [(0, .inr (.inr (some 0))), (1, .inl a1), (2, .inl v2_9)]) (st' := [.inl 5, .inr (.inr (some 0))]) (h' := gr_h I7 J8) (C := ((True ∧ True) ∧ True)) rfl ⟨⟨trivial, trivial⟩, trivial⟩ ?_
          obtain ⟨r80, h80, E80, P80⟩ := r_no__p (ws0 := ws0) (tb := tb) hws htb ext β N9 p_9 I7 J8 hI7 5 ⟨by omega, by omega⟩ e1_9 (by omega)
          obtain ⟨I81, J82, rfl, hI81, g80, k80, ⟨z80, rfl, q80⟩⟩ := P80
          have FI81 := gr_frt FI7 g80 rfl rfl
          have FJ82 := gr_fjt FJ8 k80 rfl rfl
          have t83 := g80 0 71 rfl
          have t84 := g80 0 72 rfl
          have t85 := g80 0 73 rfl
          have t86 := g80 0 69 rfl
          have t87 := g80 0 6 rfl
          have t88 := g80 0 59 rfl
          have f89 := (show 0 ≤ I81 0 71 ∧ I81 0 71 ≤ 5 from (hI81 0 71).1)
          have f90 := (show 0 ≤ I81 0 72 ∧ I81 0 72 ≤ 1000 from (hI81 0 72).1)
          have f91 := (show 0 ≤ I81 0 73 ∧ I81 0 73 ≤ 1001 from (hI81 0 73).1)
          have f92 := (show 0 ≤ I81 0 69 ∧ I81 0 69 ≤ 1000 from (hI81 0 69).1)
          have f93 := (show (-1) ≤ I81 0 6 ∧ I81 0 6 ≤ 7 from (hI81 0 6).1)
          have f94 := (show 0 ≤ I81 0 59 ∧ I81 0 59 ≤ 2000 from (hI81 0 59).1)
          have A95 := gr_ATp_F e1_9 g80 k80 rfl
          have t96 := gr_ATp_l A95
          refine gv_callV hD rfl (As := [.inl 5]) (st := []) rfl (by decide) rfl rfl (gr_lV hws rfl) (Nat.le_of_ble_eq_true rfl) (gz_Ev_mono (d := 2) (by decide) E80) ?_
          show gv_X _ _ (37, [(0, .inr (.inr (some 0))), (1, .inl a1), (2, .inl v2_9)], [.inl z80], gr_sh ++ ext, gr_h I81 J82)
          have b97 : (I81 0 71 = 5 ∨ I81 0 73 ≤ I81 0 69) ∧ (I81 0 72 ≤ I81 0 69) ∧ (I81 0 71 = 0 ∨ (I81 0 72 < I81 0 73 ∧ I81 0 72 < I81 0 69)) ∧ (I81 0 71 = 3 → 2 ≤ I81 0 73 - I81 0 72 ∧ I81 0 73 - I81 0 72 ≤ 14) ∧ (I81 0 72 ≤ I81 0 73) ∧ (I81 0 69 = I 0 69) ∧ (I 0 73 ≤ I81 0 73) ∧ (I 0 72 ≤ I81 0 72) ∧ (I81 0 59 - I81 0 72 ≤ I 0 59 - I 0 72) := by omega
          exact gv_zret hD rfl (by omega) ⟨I81, J82, rfl, hI81, FI81, FJ82, ⟨_, rfl, by omega, by omega, b97.1, b97.2.1, b97.2.2.1, b97.2.2.2.1, b97.2.2.2.2.1, b97.2.2.2.2.2.1, b97.2.2.2.2.2.2.1, b97.2.2.2.2.2.2.2.1, b97.2.2.2.2.2.2.2.2, (Or.inr ⟨by omega, by rw [e2_9, gs_sd_x (by omega) (by omega)]; exact ⟨by omega, by omega⟩⟩)⟩⟩
      · have t98 := gr_ATp_k e1_9 (c := 3) ⟨by omega, by omega⟩
        have f99 := (show 0 ≤ I7 0 71 ∧ I7 0 71 ≤ 5 from (hI7 0 71).1)
        refine gv_run 3 true hD (pc' := 15) (lv' := [(0, .inr (.inr (some 0))), (1, .inl a1), (2, .inl v2_9)]) (st' := [.inl 1, .inl (I7 0 71)]) (h' := gr_h I7 J8) (C := (((True ∧ True) ∧ True) ∧ True)) rfl ⟨⟨⟨trivial, trivial⟩, trivial⟩, trivial⟩ ?_
        refine gv_icmp_eq (t := 27) hD rfl rfl ⟨⟨by omega, by omega⟩, ⟨by omega, by omega⟩⟩ (fun c100 => ?_) (fun c100 => ?_)
        · have t101 := gr_ATp_k e1_9 (c := 1) ⟨by omega, by omega⟩
          refine gv_run 2 true hD (pc' := 29) (lv' := [(0, .inr (.inr (some 0))), (1, .inl a1), (2, .inl v2_9)]) (st' := [.inl 3, .inl v2_9]) (h' := gr_h I7 J8) (C := ((True ∧ True) ∧ True)) rfl ⟨⟨trivial, trivial⟩, trivial⟩ ?_
          refine gv_icmp_ne (t := 38) hD rfl rfl ⟨⟨by omega, by omega⟩, ⟨by omega, by omega⟩⟩ (fun c102 => ?_) (fun c102 => ?_)
          · refine gv_run 2 true hD (pc' := 40) (lv' := [(0, .inr (.inr (some 0))), (1, .inl a1), (2, .inl v2_9)]) (st' := [.inl 1, .inr (.inr (some 0))]) (h' := gr_h I7 J8) (C := ((True ∧ True) ∧ True)) rfl ⟨⟨trivial, trivial⟩, trivial⟩ ?_
            obtain ⟨r103, h103, E103, P103⟩ := r_context_p (ws0 := ws0) (tb := tb) hws htb ext β N9 p_9 I7 J8 hI7 1 ⟨by omega, by omega⟩ (by omega) (by omega) (by omega) (by omega) (by omega) (by omega) (by omega) e1_9 (by omega)
            obtain ⟨I104, J105, rfl, hI104, g103, k103, ⟨z103, rfl, q103⟩⟩ := P103
            have FI104 := gr_frt FI7 g103 rfl rfl
            have FJ105 := gr_fjt FJ8 k103 rfl rfl
            have t106 := g103 0 69 rfl
            have t107 := g103 0 6 rfl
            have f108 := (show 0 ≤ I104 0 71 ∧ I104 0 71 ≤ 5 from (hI104 0 71).1)
            have f109 := (show 0 ≤ I104 0 72 ∧ I104 0 72 ≤ 1000 from (hI104 0 72).1)
            have f110 := (show 0 ≤ I104 0 73 ∧ I104 0 73 ≤ 1001 from (hI104 0 73).1)
            have f111 := (show 0 ≤ I104 0 69 ∧ I104 0 69 ≤ 1000 from (hI104 0 69).1)
            have f112 := (show (-1) ≤ I104 0 6 ∧ I104 0 6 ≤ 7 from (hI104 0 6).1)
            have f113 := (show 0 ≤ I104 0 59 ∧ I104 0 59 ≤ 2000 from (hI104 0 59).1)
            refine gv_callV hD rfl (As := [.inl 1]) (st := []) rfl (by decide) rfl rfl (gr_lV hws rfl) (Nat.le_of_ble_eq_true rfl) (gz_Ev_mono (d := 11) (by decide) E103) ?_
            show gv_X _ _ (43, [(0, .inr (.inr (some 0))), (1, .inl a1), (2, .inl v2_9)], [.inl z103], gr_sh ++ ext, gr_h I104 J105)
            refine gv_if_ne (t := 48) hD rfl rfl ⟨by omega, by omega⟩ (fun c114 => ?_) (fun c114 => ?_)
            · have Q115 := q103.2.2.2.2.2.2.2.2.2.2.2.2
              rw [gs_ctx_eq (FI7 0 6 rfl) (fun k => (FI7 15 k rfl)) (fun k => (FJ8 22 k rfl))] at Q115
              obtain ⟨u115, A115⟩ := gs_or1 Q115 (by omega)
              have t116 := gr_ATp_l A115
              refine gv_run 7 true hD (pc' := 59) (lv' := [(2, .inl (v2_9 + 1)), (0, .inr (.inr (some 0))), (1, .inl a1)]) (st' := [.inr (.inr (some 0)), .inl (a1 + v2_9), .inr (.inr (some 63))]) (h' := gr_h I104 J105) (C := (((((((True ∧ True) ∧ True) ∧ True) ∧ True) ∧ True) ∧ True) ∧ True)) rfl ⟨⟨⟨⟨⟨⟨⟨trivial, trivial⟩, trivial⟩, trivial⟩, trivial⟩, trivial⟩, trivial⟩, trivial⟩ ?_
              have f117 := (show ((-2147483648) ≤ I104 0 104 ∧ I104 0 104 ≤ 2147483647) ∧ ((I104 0 104) = -2147483648 ∨ (I104 0 104) = 2147483647 ∨ -16 ≤ (I104 0 104) ∧ (I104 0 104) ≤ 32015) from hI104 0 104)
              refine gv_run 2 true hD (pc' := 63) (lv' := [(2, .inl (v2_9 + 1)), (0, .inr (.inr (some 0))), (1, .inl a1)]) (st' := []) (h' := gz_up (gr_h I104 J105) 63 (Int.toNat ((a1 + v2_9))) (.inl (I104 0 104))) (C := ((True ∧ True) ∧ (0 ≤ (a1 + v2_9) ∧ (a1 + v2_9) < ((6 : Nat) : Int)))) rfl ⟨⟨trivial, trivial⟩, ⟨by omega, by omega⟩⟩ ?_
              refine gr_st hI104 FI104 rfl rfl ⟨⟨by show (-2147483648) ≤ _; omega, by show _ ≤ 2147483647; omega⟩, by show ((I104 0 104) = -2147483648 ∨ (I104 0 104) = 2147483647 ∨ -16 ≤ (I104 0 104) ∧ (I104 0 104) ≤ 32015); omega⟩ (fun I118 hI118 FI118 q119 p119 => ?_)
              have t120 := p119 0 71 (fun q => absurd q.1 (by decide))
              have t121 := p119 0 72 (fun q => absurd q.1 (by decide))
              have t122 := p119 0 73 (fun q => absurd q.1 (by decide))
              have t123 := p119 0 69 (fun q => absurd q.1 (by decide))
              have t124 := p119 0 6 (fun q => absurd q.1 (by decide))
              have t125 := p119 0 59 (fun q => absurd q.1 (by decide))
              have f126 := (show 0 ≤ I118 0 71 ∧ I118 0 71 ≤ 5 from (hI118 0 71).1)
              have f127 := (show 0 ≤ I118 0 72 ∧ I118 0 72 ≤ 1000 from (hI118 0 72).1)
              have f128 := (show 0 ≤ I118 0 73 ∧ I118 0 73 ≤ 1001 from (hI118 0 73).1)
              have f129 := (show 0 ≤ I118 0 69 ∧ I118 0 69 ≤ 1000 from (hI118 0 69).1)
              have f130 := (show (-1) ≤ I118 0 6 ∧ I118 0 6 ≤ 7 from (hI118 0 6).1)
              have f131 := (show 0 ≤ I118 0 59 ∧ I118 0 59 ≤ 2000 from (hI118 0 59).1)
              have A132 := gr_ATp_sr A115 p119 rfl
              refine gv_run 1 true hD (pc' := 2) (lv' := [(2, .inl (v2_9 + 1)), (0, .inr (.inr (some 0))), (1, .inl a1)]) (st' := []) (h' := gr_h I118 J105) (C := (True ∧ True)) rfl ⟨trivial, trivial⟩ ?_
              refine gv_pick [1, 2, 0] rfl ?_
              exact ih2 I118 J105 (v2_9 + 1) (gs_ctx β N9 I J 1 p_9) (by omega) hI118 FI118 FJ105 (by omega) A132 (e2_9.trans (gs_sd_s (by omega) (by omega) (by omega)))
            · have Q133 := q103.2.2.2.2.2.2.2.2.2.2.2.2
              rw [gs_ctx_eq (FI7 0 6 rfl) (fun k => (FI7 15 k rfl)) (fun k => (FJ8 22 k rfl))] at Q133
              obtain ⟨u133, u133_⟩ := gs_or0 Q133 (by omega)
              refine gv_run 1 true hD (pc' := 47) (lv' := [(0, .inr (.inr (some 0))), (1, .inl a1), (2, .inl v2_9)]) (st' := [.inl 0]) (h' := gr_h I104 J105) (C := (True ∧ True)) rfl ⟨trivial, trivial⟩ ?_
              have b134 : (I104 0 71 = 5 ∨ I104 0 73 ≤ I104 0 69) ∧ (I104 0 72 ≤ I104 0 69) ∧ (I104 0 71 = 0 ∨ (I104 0 72 < I104 0 73 ∧ I104 0 72 < I104 0 69)) ∧ (I104 0 71 = 3 → 2 ≤ I104 0 73 - I104 0 72 ∧ I104 0 73 - I104 0 72 ≤ 14) ∧ (I104 0 72 ≤ I104 0 73) ∧ (I104 0 69 = I 0 69) ∧ (I 0 73 ≤ I104 0 73) ∧ (I 0 72 ≤ I104 0 72) ∧ (I104 0 59 - I104 0 72 ≤ I 0 59 - I 0 72) := by omega
              exact gv_zret hD rfl (by omega) ⟨I104, J105, rfl, hI104, FI104, FJ105, ⟨_, rfl, by omega, by omega, b134.1, b134.2.1, b134.2.2.1, b134.2.2.2.1, b134.2.2.2.2.1, b134.2.2.2.2.2.1, b134.2.2.2.2.2.2.1, b134.2.2.2.2.2.2.2.1, b134.2.2.2.2.2.2.2.2, (Or.inr ⟨by omega, by rw [e2_9, gs_sd_c (by omega) (by omega) (by omega)]; exact ⟨by omega, by omega⟩⟩)⟩⟩
          · refine gv_run 2 true hD (pc' := 34) (lv' := [(0, .inr (.inr (some 0))), (1, .inl a1), (2, .inl v2_9)]) (st' := [.inl 5, .inr (.inr (some 0))]) (h' := gr_h I7 J8) (C := ((True ∧ True) ∧ True)) rfl ⟨⟨trivial, trivial⟩, trivial⟩ ?_
            obtain ⟨r135, h135, E135, P135⟩ := r_no__p (ws0 := ws0) (tb := tb) hws htb ext β N9 p_9 I7 J8 hI7 5 ⟨by omega, by omega⟩ e1_9 (by omega)
            obtain ⟨I136, J137, rfl, hI136, g135, k135, ⟨z135, rfl, q135⟩⟩ := P135
            have FI136 := gr_frt FI7 g135 rfl rfl
            have FJ137 := gr_fjt FJ8 k135 rfl rfl
            have t138 := g135 0 71 rfl
            have t139 := g135 0 72 rfl
            have t140 := g135 0 73 rfl
            have t141 := g135 0 69 rfl
            have t142 := g135 0 6 rfl
            have t143 := g135 0 59 rfl
            have f144 := (show 0 ≤ I136 0 71 ∧ I136 0 71 ≤ 5 from (hI136 0 71).1)
            have f145 := (show 0 ≤ I136 0 72 ∧ I136 0 72 ≤ 1000 from (hI136 0 72).1)
            have f146 := (show 0 ≤ I136 0 73 ∧ I136 0 73 ≤ 1001 from (hI136 0 73).1)
            have f147 := (show 0 ≤ I136 0 69 ∧ I136 0 69 ≤ 1000 from (hI136 0 69).1)
            have f148 := (show (-1) ≤ I136 0 6 ∧ I136 0 6 ≤ 7 from (hI136 0 6).1)
            have f149 := (show 0 ≤ I136 0 59 ∧ I136 0 59 ≤ 2000 from (hI136 0 59).1)
            have A150 := gr_ATp_F e1_9 g135 k135 rfl
            have t151 := gr_ATp_l A150
            refine gv_callV hD rfl (As := [.inl 5]) (st := []) rfl (by decide) rfl rfl (gr_lV hws rfl) (Nat.le_of_ble_eq_true rfl) (gz_Ev_mono (d := 2) (by decide) E135) ?_
            show gv_X _ _ (37, [(0, .inr (.inr (some 0))), (1, .inl a1), (2, .inl v2_9)], [.inl z135], gr_sh ++ ext, gr_h I136 J137)
            have b152 : (I136 0 71 = 5 ∨ I136 0 73 ≤ I136 0 69) ∧ (I136 0 72 ≤ I136 0 69) ∧ (I136 0 71 = 0 ∨ (I136 0 72 < I136 0 73 ∧ I136 0 72 < I136 0 69)) ∧ (I136 0 71 = 3 → 2 ≤ I136 0 73 - I136 0 72 ∧ I136 0 73 - I136 0 72 ≤ 14) ∧ (I136 0 72 ≤ I136 0 73) ∧ (I136 0 69 = I 0 69) ∧ (I 0 73 ≤ I136 0 73) ∧ (I 0 72 ≤ I136 0 72) ∧ (I136 0 59 - I136 0 72 ≤ I 0 59 - I 0 72) := by omega
            exact gv_zret hD rfl (by omega) ⟨I136, J137, rfl, hI136, FI136, FJ137, ⟨_, rfl, by omega, by omega, b152.1, b152.2.1, b152.2.2.1, b152.2.2.2.1, b152.2.2.2.2.1, b152.2.2.2.2.2.1, b152.2.2.2.2.2.2.1, b152.2.2.2.2.2.2.2.1, b152.2.2.2.2.2.2.2.2, (Or.inr ⟨by omega, by rw [e2_9, gs_sd_x (by omega) (by omega)]; exact ⟨by omega, by omega⟩⟩)⟩⟩
        · have t153 := gr_ATp_k e1_9 (c := 1) ⟨by omega, by omega⟩
          refine gv_run 2 true hD (pc' := 21) (lv' := [(0, .inr (.inr (some 0))), (1, .inl a1), (2, .inl v2_9)]) (st' := [.inl 35, .inr (.inr (some 0))]) (h' := gr_h I7 J8) (C := ((True ∧ True) ∧ True)) rfl ⟨⟨trivial, trivial⟩, trivial⟩ ?_
          obtain ⟨r154, h154, E154, P154⟩ := r_sign_p (ws0 := ws0) (tb := tb) hws htb ext β N9 p_9 I7 J8 hI7 35 ⟨by omega, by omega⟩ (by omega) e1_9 (by omega)
          obtain ⟨rfl, ⟨z154, rfl, q154⟩⟩ := P154
          refine gv_callV hD rfl (As := [.inl 35]) (st := []) rfl (by decide) rfl rfl (gr_lV hws rfl) (Nat.le_of_ble_eq_true rfl) (gz_Ev_mono (d := 1) (by decide) E154) ?_
          show gv_X _ _ (24, [(0, .inr (.inr (some 0))), (1, .inl a1), (2, .inl v2_9)], [.inl z154], gr_sh ++ ext, gr_h I7 J8)
          refine gv_if_eq (t := 66) hD rfl rfl ⟨by omega, by omega⟩ (fun c155 => ?_) (fun c155 => ?_)
          · exact L66 _ I7 J8 v2_9 p_9 (Nat.lt_succ_self _) hI7 FI7 FJ8 (by omega) e1_9 (e2_9.trans (gs_sd_e (by omega)))
          · refine gv_run 2 true hD (pc' := 29) (lv' := [(0, .inr (.inr (some 0))), (1, .inl a1), (2, .inl v2_9)]) (st' := [.inl 3, .inl v2_9]) (h' := gr_h I7 J8) (C := ((True ∧ True) ∧ True)) rfl ⟨⟨trivial, trivial⟩, trivial⟩ ?_
            refine gv_icmp_ne (t := 38) hD rfl rfl ⟨⟨by omega, by omega⟩, ⟨by omega, by omega⟩⟩ (fun c156 => ?_) (fun c156 => ?_)
            · refine gv_run 2 true hD (pc' := 40) (lv' := [(0, .inr (.inr (some 0))), (1, .inl a1), (2, .inl v2_9)]) (st' := [.inl 1, .inr (.inr (some 0))]) (h' := gr_h I7 J8) (C := ((True ∧ True) ∧ True)) rfl ⟨⟨trivial, trivial⟩, trivial⟩ ?_
              obtain ⟨r157, h157, E157, P157⟩ := r_context_p (ws0 := ws0) (tb := tb) hws htb ext β N9 p_9 I7 J8 hI7 1 ⟨by omega, by omega⟩ (by omega) (by omega) (by omega) (by omega) (by omega) (by omega) (by omega) e1_9 (by omega)
              obtain ⟨I158, J159, rfl, hI158, g157, k157, ⟨z157, rfl, q157⟩⟩ := P157
              have FI158 := gr_frt FI7 g157 rfl rfl
              have FJ159 := gr_fjt FJ8 k157 rfl rfl
              have t160 := g157 0 69 rfl
              have t161 := g157 0 6 rfl
              have f162 := (show 0 ≤ I158 0 71 ∧ I158 0 71 ≤ 5 from (hI158 0 71).1)
              have f163 := (show 0 ≤ I158 0 72 ∧ I158 0 72 ≤ 1000 from (hI158 0 72).1)
              have f164 := (show 0 ≤ I158 0 73 ∧ I158 0 73 ≤ 1001 from (hI158 0 73).1)
              have f165 := (show 0 ≤ I158 0 69 ∧ I158 0 69 ≤ 1000 from (hI158 0 69).1)
              have f166 := (show (-1) ≤ I158 0 6 ∧ I158 0 6 ≤ 7 from (hI158 0 6).1)
              have f167 := (show 0 ≤ I158 0 59 ∧ I158 0 59 ≤ 2000 from (hI158 0 59).1)
              refine gv_callV hD rfl (As := [.inl 1]) (st := []) rfl (by decide) rfl rfl (gr_lV hws rfl) (Nat.le_of_ble_eq_true rfl) (gz_Ev_mono (d := 11) (by decide) E157) ?_
              show gv_X _ _ (43, [(0, .inr (.inr (some 0))), (1, .inl a1), (2, .inl v2_9)], [.inl z157], gr_sh ++ ext, gr_h I158 J159)
              refine gv_if_ne (t := 48) hD rfl rfl ⟨by omega, by omega⟩ (fun c168 => ?_) (fun c168 => ?_)
              · have Q169 := q157.2.2.2.2.2.2.2.2.2.2.2.2
                rw [gs_ctx_eq (FI7 0 6 rfl) (fun k => (FI7 15 k rfl)) (fun k => (FJ8 22 k rfl))] at Q169
                obtain ⟨u169, A169⟩ := gs_or1 Q169 (by omega)
                have t170 := gr_ATp_l A169
                refine gv_run 7 true hD (pc' := 59) (lv' := [(2, .inl (v2_9 + 1)), (0, .inr (.inr (some 0))), (1, .inl a1)]) (st' := [.inr (.inr (some 0)), .inl (a1 + v2_9), .inr (.inr (some 63))]) (h' := gr_h I158 J159) (C := (((((((True ∧ True) ∧ True) ∧ True) ∧ True) ∧ True) ∧ True) ∧ True)) rfl ⟨⟨⟨⟨⟨⟨⟨trivial, trivial⟩, trivial⟩, trivial⟩, trivial⟩, trivial⟩, trivial⟩, trivial⟩ ?_
                have f171 := (show ((-2147483648) ≤ I158 0 104 ∧ I158 0 104 ≤ 2147483647) ∧ ((I158 0 104) = -2147483648 ∨ (I158 0 104) = 2147483647 ∨ -16 ≤ (I158 0 104) ∧ (I158 0 104) ≤ 32015) from hI158 0 104)
                refine gv_run 2 true hD (pc' := 63) (lv' := [(2, .inl (v2_9 + 1)), (0, .inr (.inr (some 0))), (1, .inl a1)]) (st' := []) (h' := gz_up (gr_h I158 J159) 63 (Int.toNat ((a1 + v2_9))) (.inl (I158 0 104))) (C := ((True ∧ True) ∧ (0 ≤ (a1 + v2_9) ∧ (a1 + v2_9) < ((6 : Nat) : Int)))) rfl ⟨⟨trivial, trivial⟩, ⟨by omega, by omega⟩⟩ ?_
                refine gr_st hI158 FI158 rfl rfl ⟨⟨by show (-2147483648) ≤ _; omega, by show _ ≤ 2147483647; omega⟩, by show ((I158 0 104) = -2147483648 ∨ (I158 0 104) = 2147483647 ∨ -16 ≤ (I158 0 104) ∧ (I158 0 104) ≤ 32015); omega⟩ (fun I172 hI172 FI172 q173 p173 => ?_)
                have t174 := p173 0 71 (fun q => absurd q.1 (by decide))
                have t175 := p173 0 72 (fun q => absurd q.1 (by decide))
                have t176 := p173 0 73 (fun q => absurd q.1 (by decide))
                have t177 := p173 0 69 (fun q => absurd q.1 (by decide))
                have t178 := p173 0 6 (fun q => absurd q.1 (by decide))
                have t179 := p173 0 59 (fun q => absurd q.1 (by decide))
                have f180 := (show 0 ≤ I172 0 71 ∧ I172 0 71 ≤ 5 from (hI172 0 71).1)
                have f181 := (show 0 ≤ I172 0 72 ∧ I172 0 72 ≤ 1000 from (hI172 0 72).1)
                have f182 := (show 0 ≤ I172 0 73 ∧ I172 0 73 ≤ 1001 from (hI172 0 73).1)
                have f183 := (show 0 ≤ I172 0 69 ∧ I172 0 69 ≤ 1000 from (hI172 0 69).1)
                have f184 := (show (-1) ≤ I172 0 6 ∧ I172 0 6 ≤ 7 from (hI172 0 6).1)
                have f185 := (show 0 ≤ I172 0 59 ∧ I172 0 59 ≤ 2000 from (hI172 0 59).1)
                have A186 := gr_ATp_sr A169 p173 rfl
                refine gv_run 1 true hD (pc' := 2) (lv' := [(2, .inl (v2_9 + 1)), (0, .inr (.inr (some 0))), (1, .inl a1)]) (st' := []) (h' := gr_h I172 J159) (C := (True ∧ True)) rfl ⟨trivial, trivial⟩ ?_
                refine gv_pick [1, 2, 0] rfl ?_
                exact ih2 I172 J159 (v2_9 + 1) (gs_ctx β N9 I J 1 p_9) (by omega) hI172 FI172 FJ159 (by omega) A186 (e2_9.trans (gs_sd_s (by omega) (by omega) (by omega)))
              · have Q187 := q157.2.2.2.2.2.2.2.2.2.2.2.2
                rw [gs_ctx_eq (FI7 0 6 rfl) (fun k => (FI7 15 k rfl)) (fun k => (FJ8 22 k rfl))] at Q187
                obtain ⟨u187, u187_⟩ := gs_or0 Q187 (by omega)
                refine gv_run 1 true hD (pc' := 47) (lv' := [(0, .inr (.inr (some 0))), (1, .inl a1), (2, .inl v2_9)]) (st' := [.inl 0]) (h' := gr_h I158 J159) (C := (True ∧ True)) rfl ⟨trivial, trivial⟩ ?_
                have b188 : (I158 0 71 = 5 ∨ I158 0 73 ≤ I158 0 69) ∧ (I158 0 72 ≤ I158 0 69) ∧ (I158 0 71 = 0 ∨ (I158 0 72 < I158 0 73 ∧ I158 0 72 < I158 0 69)) ∧ (I158 0 71 = 3 → 2 ≤ I158 0 73 - I158 0 72 ∧ I158 0 73 - I158 0 72 ≤ 14) ∧ (I158 0 72 ≤ I158 0 73) ∧ (I158 0 69 = I 0 69) ∧ (I 0 73 ≤ I158 0 73) ∧ (I 0 72 ≤ I158 0 72) ∧ (I158 0 59 - I158 0 72 ≤ I 0 59 - I 0 72) := by omega
                exact gv_zret hD rfl (by omega) ⟨I158, J159, rfl, hI158, FI158, FJ159, ⟨_, rfl, by omega, by omega, b188.1, b188.2.1, b188.2.2.1, b188.2.2.2.1, b188.2.2.2.2.1, b188.2.2.2.2.2.1, b188.2.2.2.2.2.2.1, b188.2.2.2.2.2.2.2.1, b188.2.2.2.2.2.2.2.2, (Or.inr ⟨by omega, by rw [e2_9, gs_sd_c (by omega) (by omega) (by omega)]; exact ⟨by omega, by omega⟩⟩)⟩⟩
            · refine gv_run 2 true hD (pc' := 34) (lv' := [(0, .inr (.inr (some 0))), (1, .inl a1), (2, .inl v2_9)]) (st' := [.inl 5, .inr (.inr (some 0))]) (h' := gr_h I7 J8) (C := ((True ∧ True) ∧ True)) rfl ⟨⟨trivial, trivial⟩, trivial⟩ ?_
              obtain ⟨r189, h189, E189, P189⟩ := r_no__p (ws0 := ws0) (tb := tb) hws htb ext β N9 p_9 I7 J8 hI7 5 ⟨by omega, by omega⟩ e1_9 (by omega)
              obtain ⟨I190, J191, rfl, hI190, g189, k189, ⟨z189, rfl, q189⟩⟩ := P189
              have FI190 := gr_frt FI7 g189 rfl rfl
              have FJ191 := gr_fjt FJ8 k189 rfl rfl
              have t192 := g189 0 71 rfl
              have t193 := g189 0 72 rfl
              have t194 := g189 0 73 rfl
              have t195 := g189 0 69 rfl
              have t196 := g189 0 6 rfl
              have t197 := g189 0 59 rfl
              have f198 := (show 0 ≤ I190 0 71 ∧ I190 0 71 ≤ 5 from (hI190 0 71).1)
              have f199 := (show 0 ≤ I190 0 72 ∧ I190 0 72 ≤ 1000 from (hI190 0 72).1)
              have f200 := (show 0 ≤ I190 0 73 ∧ I190 0 73 ≤ 1001 from (hI190 0 73).1)
              have f201 := (show 0 ≤ I190 0 69 ∧ I190 0 69 ≤ 1000 from (hI190 0 69).1)
              have f202 := (show (-1) ≤ I190 0 6 ∧ I190 0 6 ≤ 7 from (hI190 0 6).1)
              have f203 := (show 0 ≤ I190 0 59 ∧ I190 0 59 ≤ 2000 from (hI190 0 59).1)
              have A204 := gr_ATp_F e1_9 g189 k189 rfl
              have t205 := gr_ATp_l A204
              refine gv_callV hD rfl (As := [.inl 5]) (st := []) rfl (by decide) rfl rfl (gr_lV hws rfl) (Nat.le_of_ble_eq_true rfl) (gz_Ev_mono (d := 2) (by decide) E189) ?_
              show gv_X _ _ (37, [(0, .inr (.inr (some 0))), (1, .inl a1), (2, .inl v2_9)], [.inl z189], gr_sh ++ ext, gr_h I190 J191)
              have b206 : (I190 0 71 = 5 ∨ I190 0 73 ≤ I190 0 69) ∧ (I190 0 72 ≤ I190 0 69) ∧ (I190 0 71 = 0 ∨ (I190 0 72 < I190 0 73 ∧ I190 0 72 < I190 0 69)) ∧ (I190 0 71 = 3 → 2 ≤ I190 0 73 - I190 0 72 ∧ I190 0 73 - I190 0 72 ≤ 14) ∧ (I190 0 72 ≤ I190 0 73) ∧ (I190 0 69 = I 0 69) ∧ (I 0 73 ≤ I190 0 73) ∧ (I 0 72 ≤ I190 0 72) ∧ (I190 0 59 - I190 0 72 ≤ I 0 59 - I 0 72) := by omega
              exact gv_zret hD rfl (by omega) ⟨I190, J191, rfl, hI190, FI190, FJ191, ⟨_, rfl, by omega, by omega, b206.1, b206.2.1, b206.2.2.1, b206.2.2.2.1, b206.2.2.2.2.1, b206.2.2.2.2.2.1, b206.2.2.2.2.2.2.1, b206.2.2.2.2.2.2.2.1, b206.2.2.2.2.2.2.2.2, (Or.inr ⟨by omega, by rw [e2_9, gs_sd_x (by omega) (by omega)]; exact ⟨by omega, by omega⟩⟩)⟩⟩
  refine gv_run 2 true hD (pc' := 2) (lv' := [(2, .inl 0), (0, .inr (.inr (some 0))), (1, .inl a1)]) (st' := []) (h' := gr_h I J) (C := ((True ∧ True) ∧ True)) rfl ⟨⟨trivial, trivial⟩, trivial⟩ ?_
  refine gv_pick [1, 2, 0] rfl ?_
  exact L2 _ I J 0 p9 (Nat.lt_succ_self _) hI FI FJ (by omega) x7 rfl
