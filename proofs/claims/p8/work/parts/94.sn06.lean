set_option maxHeartbeats 8000000 in
set_option maxRecDepth 100000 in
theorem r_keeps_p {ws0 : List Cond} {tb : String → gz_T} (hws : ∀ w ∈ gr_ws, w ∈ ws0) (htb : tb RX13 = gr_T) (ext : gz_Sh) (I : gr_I) (J : gr_J) (hI : gr_Inv I)   (x0 : I 0 59 + 14 ≤ 2000) (x1 : I 0 73 - I 0 72 ≤ 14) (x2 : 2 ≤ I 0 73 - I 0 72) (x3 : I 0 73 ≤ 1000) : ∃ r h', gz_Ev ws0 tb 2 (yX13_keeps, cX13_keeps, 4, (some .int)) [.inr (.inr (some 0))] (gr_sh ++ ext) (gr_h I J) r (gr_sh ++ ext) h' 0 0 ∧ (∃ (I' : gr_I) (J' : gr_J), h' = gr_h I' J' ∧ gr_Inv I' ∧ gr_fr [59] [51] I I' ∧ gr_fj [59] [51] J J' ∧ (∃ z : Int, r = some (.inl z) ∧ 0 ≤ z ∧ z ≤ 32015 ∧ (I' 0 59 = I 0 59 + (I 0 73 - I 0 72 - 2)) ∧ (0 ≤ z ∧ z ≤ 32015) ∧ (gr_LKs I I') ∧ (z = 16 * I 0 59 + (I 0 73 - I 0 72 - 2)) ∧ (gs_kl I I'))) := by
  have FI : gr_fr [59] [51] I I := fun _ _ _ => rfl
  have FJ : gr_fj [59] [51] J J := fun _ _ _ => rfl
  have hD : gv_D (gr_E ws0 tb 1 (yX13_keeps, cX13_keeps, 4, (some .int)) kX13_keeps) := gq_of oX13_keeps
  refine gr_ev (d := 1) (l := kX13_keeps) (Po := fun r h' => (∃ (I' : gr_I) (J' : gr_J), h' = gr_h I' J' ∧ gr_Inv I' ∧ gr_fr [59] [51] I I' ∧ gr_fj [59] [51] J J' ∧ (∃ z : Int, r = some (.inl z) ∧ 0 ≤ z ∧ z ≤ 32015 ∧ (I' 0 59 = I 0 59 + (I 0 73 - I 0 72 - 2)) ∧ (0 ≤ z ∧ z ≤ 32015) ∧ (gr_LKs I I') ∧ (z = 16 * I 0 59 + (I 0 73 - I 0 72 - 2)) ∧ (gs_kl I I')))) htb rfl (Nat.le_of_ble_eq_true rfl) ?_
  have f1 := (gr_b_0_59 hI)
  have f2 := (gr_b_0_72 hI)
  have f3 := (gr_b_0_73 hI)
  have KLK_I : gr_LKs I I := gr_LKs_rf
  have L17 : ∀ (n : Nat) (I4 : gr_I) (J5 : gr_J) (v1_6 : Int) (v2_6 : Int) (v3_6 : Int), (13 - v3_6).toNat < n → gr_Inv I4 → gr_fr [59] [51] I I4 → gr_fj [59] [51] J J5 → gr_LKs I I4 → ((0 ≤ v1_6 ∧ v1_6 ≤ 12) ∧ (0 ≤ v2_6 ∧ v2_6 ≤ 32015) ∧ (0 ≤ v3_6 ∧ v3_6 ≤ 12) ∧ (I4 0 59 = I 0 59 + v3_6) ∧ (I4 0 72 = I 0 72) ∧ (v1_6 = I 0 73 - I 0 72 - 2) ∧ (v3_6 ≤ v1_6) ∧ (v2_6 = 16 * I 0 59 + v1_6)) → (∀ i : Int, 0 ≤ i → i < v3_6 → I4 51 (Int.toNat (I 0 59 + i)) = I 57 (Int.toNat (I 0 72 + 1 + i))) → gv_X (gr_E ws0 tb 1 (yX13_keeps, cX13_keeps, 4, (some .int)) kX13_keeps) (gv_Q cX13_keeps (some .int) (gr_sh ++ ext) (fun r h' => (∃ (I' : gr_I) (J' : gr_J), h' = gr_h I' J' ∧ gr_Inv I' ∧ gr_fr [59] [51] I I' ∧ gr_fj [59] [51] J J' ∧ (∃ z : Int, r = some (.inl z) ∧ 0 ≤ z ∧ z ≤ 32015 ∧ (I' 0 59 = I 0 59 + (I 0 73 - I 0 72 - 2)) ∧ (0 ≤ z ∧ z ≤ 32015) ∧ (gr_LKs I I') ∧ (z = 16 * I 0 59 + (I 0 73 - I 0 72 - 2)) ∧ (gs_kl I I'))))) (17, [(0, .inr (.inr (some 0))), (1, .inl v1_6), (2, .inl v2_6), (3, .inl v3_6)], [], gr_sh ++ ext, gr_h I4 J5) := by
    intro n
    induction n with
    | zero => intro I4 J5 v1_6 v2_6 v3_6 hn; exact gz_m 0 (by omega)
    | succ n ih17 =>
      intro I4 J5 v1_6 v2_6 v3_6 hn hI4 FI4 FJ5 KLK_I4 m_6 e5_6
      obtain ⟨hv1_6, hv2_6, hv3_6, e0_6, e1_6, e2_6, e3_6, e4_6⟩ := m_6
      have f7 := (gr_b_0_59 hI4)
      have f8 := (gr_b_0_72 hI4)
      have f9 := (gr_b_0_73 hI4)
      refine gv_run 2 true hD (pc' := 19) (lv' := [(0, .inr (.inr (some 0))), (1, .inl v1_6), (2, .inl v2_6), (3, .inl v3_6)]) (st' := [.inl v1_6, .inl v3_6]) (h' := gr_h I4 J5) (C := ((True ∧ True) ∧ True)) rfl ⟨⟨trivial, trivial⟩, trivial⟩ ?_
      refine gv_icmp_ge (t := 57) hD rfl rfl ⟨⟨by exact gz_m 1 (by omega), by exact gz_m 2 (by omega)⟩, ⟨by exact gz_m 3 (by omega), by exact gz_m 4 (by omega)⟩⟩ (fun c10 => ?_) (fun c10 => ?_)
      · refine gv_run 1 true hD (pc' := 58) (lv' := [(0, .inr (.inr (some 0))), (1, .inl v1_6), (2, .inl v2_6), (3, .inl v3_6)]) (st' := [.inl v2_6]) (h' := gr_h I4 J5) (C := (True ∧ True)) rfl ⟨trivial, trivial⟩ ?_
        have b11 : (I4 0 59 = I 0 59 + (I 0 73 - I 0 72 - 2)) ∧ (0 ≤ (v2_6 : Int) ∧ (v2_6 : Int) ≤ 32015) ∧ ((v2_6 : Int) = 16 * I 0 59 + (I 0 73 - I 0 72 - 2)) := by exact gz_m 5 (by omega)
        exact gv_iret hD rfl ⟨I4, J5, rfl, hI4, FI4, FJ5, ⟨_, rfl, by exact gz_m 6 (by omega), by exact gz_m 7 (by omega), b11.1, b11.2.1, KLK_I4, b11.2.2, (fun i a b => e5_6 i a (by exact gz_m 8 (by omega)))⟩⟩
      · have f12 := (gr_b_0_59 hI4)
        refine gv_run 7 true hD (pc' := 33) (lv' := [(0, .inr (.inr (some 0))), (1, .inl v1_6), (2, .inl v2_6), (3, .inl v3_6)]) (st' := [.inl 1, .inl (I4 0 59), .inr (.inr (some 0)), .inl (I4 0 59), .inr (.inr (some 51))]) (h' := gr_h I4 J5) (C := (((((((True ∧ True) ∧ True) ∧ True) ∧ True) ∧ True) ∧ True) ∧ True)) rfl ⟨⟨⟨⟨⟨⟨⟨trivial, trivial⟩, trivial⟩, trivial⟩, trivial⟩, trivial⟩, trivial⟩, trivial⟩ ?_
        refine gv_run 2 true hD (pc' := 37) (lv' := [(0, .inr (.inr (some 0))), (1, .inl v1_6), (2, .inl v2_6), (3, .inl v3_6)]) (st' := [.inl (I4 0 59), .inr (.inr (some 51))]) (h' := gz_up (gr_h I4 J5) 0 59 (.inl (((I4 0 59) + 1)))) (C := ((True ∧ True) ∧ True)) rfl ⟨⟨trivial, trivial⟩, trivial⟩ ?_
        refine gr_st hI4 FI4 rfl rfl ⟨⟨by show 0 ≤ _; exact gz_m 9 (by omega), by show _ ≤ 2000; exact gz_m 10 (by omega)⟩, trivial⟩ (fun I13 hI13 FI13 q14 p14 => ?_)
        have t15 := p14 0 72 (by decide)
        have t16 := p14 0 73 (by decide)
        have f17 := (gr_b_0_59 hI13)
        have f18 := (gr_b_0_72 hI13)
        have f19 := (gr_b_0_73 hI13)
        have KLK_I13 := gr_LKs_n KLK_I4 p14 (by exact gz_m 11 (by omega))
        have f20 := (gr_b_0_72 hI13)
        refine gv_run 7 true hD (pc' := 48) (lv' := [(0, .inr (.inr (some 0))), (1, .inl v1_6), (2, .inl v2_6), (3, .inl v3_6)]) (st' := [.inl v3_6, .inl ((I13 0 72) + 1), .inr (.inr (some 57)), .inl (I4 0 59), .inr (.inr (some 51))]) (h' := gr_h I13 J5) (C := (((((((True ∧ True) ∧ True) ∧ True) ∧ True) ∧ True) ∧ True) ∧ True)) rfl ⟨⟨⟨⟨⟨⟨⟨trivial, trivial⟩, trivial⟩, trivial⟩, trivial⟩, trivial⟩, trivial⟩, trivial⟩ ?_
        have f21 := (gr_b_57 hI13 (Int.toNat ((((I13 0 72) + 1) + v3_6))))
        refine gv_run 2 true hD (pc' := 50) (lv' := [(0, .inr (.inr (some 0))), (1, .inl v1_6), (2, .inl v2_6), (3, .inl v3_6)]) (st' := [.inl (I13 57 (Int.toNat ((((I13 0 72) + 1) + v3_6)))), .inl (I4 0 59), .inr (.inr (some 51))]) (h' := gr_h I13 J5) (C := ((True ∧ True) ∧ (0 ≤ ((((I13 0 72) + 1) + v3_6)) ∧ ((((I13 0 72) + 1) + v3_6)) < ((1000 : Nat) : Int)))) rfl ⟨⟨trivial, trivial⟩, ⟨by exact gz_m 12 (by omega), by exact gz_m 13 (by omega)⟩⟩ ?_
        have f22 := gw_nar_byte (x := ((I13 57 (Int.toNat ((((I13 0 72) + 1) + v3_6))))))
        refine gv_run 1 true hD (pc' := 51) (lv' := [(0, .inr (.inr (some 0))), (1, .inl v1_6), (2, .inl v2_6), (3, .inl v3_6)]) (st' := []) (h' := gz_up (gr_h I13 J5) 51 (Int.toNat ((I4 0 59))) (.inl (((vp_nar .byte (Int32.ofInt ((I13 57 (Int.toNat ((((I13 0 72) + 1) + v3_6))))))).toInt)))) (C := (True ∧ (0 ≤ (I4 0 59) ∧ (I4 0 59) < ((82000 : Nat) : Int)))) rfl ⟨trivial, ⟨by exact gz_m 14 (by omega), by exact gz_m 15 (by omega)⟩⟩ ?_
        refine gr_st hI13 FI13 rfl rfl ⟨⟨by show (-128) ≤ _; exact gz_m 16 (by omega), by show _ ≤ 127; exact gz_m 17 (by omega)⟩, trivial⟩ (fun I23 hI23 FI23 q24 p24 => ?_)
        have t25 := p24 0 59 (fun q => absurd q.1 (by decide))
        have t26 := p24 0 72 (fun q => absurd q.1 (by decide))
        have t27 := p24 0 73 (fun q => absurd q.1 (by decide))
        have f28 := (gr_b_0_59 hI23)
        have f29 := (gr_b_0_72 hI23)
        have f30 := (gr_b_0_73 hI23)
        have KLK_I23 := gr_LKs_s KLK_I13 p24 (by exact gz_m 18 (by omega))
        refine gv_run 2 true hD (pc' := 17) (lv' := [(3, .inl (v3_6 + 1)), (0, .inr (.inr (some 0))), (1, .inl v1_6), (2, .inl v2_6)]) (st' := []) (h' := gr_h I23 J5) (C := ((True ∧ True) ∧ True)) rfl ⟨⟨trivial, trivial⟩, trivial⟩ ?_
        refine gv_pick [1, 2, 3, 0] rfl ?_
        exact ih17 I23 J5 v1_6 v2_6 (v3_6 + 1) (by exact gz_m 19 (by omega)) hI23 FI23 FJ5 KLK_I23 (by exact gz_m 20 (by omega)) (fun i a b => if e9 : i = v3_6 then (by rw [show I 0 59 + i = I4 0 59 from by exact gz_m 21 (by omega), q24, gc_nar (by exact gz_m 22 (by omega)), show I13 0 72 + 1 + v3_6 = I 0 72 + 1 + i from by exact gz_m 23 (by omega)]; exact (p14 57 _ (fun q => absurd q.1 (by decide))).trans (FI4 57 _ rfl)) else (p24 51 (Int.toNat (I 0 59 + i)) (fun q => by have h9 := q.2; exact gz_m 24 (by omega))).trans ((p14 51 _ (fun q => absurd q.1 (by decide))).trans (e5_6 i a (by exact gz_m 25 (by omega)))))
  refine gv_run 1 true hD (pc' := 1) (lv' := [(0, .inr (.inr (some 0)))]) (st' := [.inr (.inr (some 0))]) (h' := gr_h I J) (C := (True ∧ True)) rfl ⟨trivial, trivial⟩ ?_
  obtain ⟨r31, h31, E31, P31⟩ := r_size (ws0 := ws0) (tb := tb) hws htb ext I J hI   
  obtain ⟨rfl, ⟨z31, rfl, q31⟩⟩ := P31
  refine gv_callV hD rfl (As := []) (st := []) rfl (by decide) rfl rfl (gr_lV hws rfl) (Nat.le_of_ble_eq_true rfl) (gz_Ev_mono (d := 1) (by decide) E31) ?_
  show gv_X _ _ (4, [(0, .inr (.inr (some 0)))], [.inl z31], gr_sh ++ ext, gr_h I J)
  have f32 := (gr_b_0_59 hI)
  refine gv_run 7 true hD (pc' := 14) (lv' := [(1, .inl z31), (0, .inr (.inr (some 0)))]) (st' := [.inl ((16 * (I 0 59)) + z31)]) (h' := gr_h I J) (C := (((((((True ∧ True) ∧ True) ∧ True) ∧ True) ∧ True) ∧ True) ∧ True)) rfl ⟨⟨⟨⟨⟨⟨⟨trivial, trivial⟩, trivial⟩, trivial⟩, trivial⟩, trivial⟩, trivial⟩, trivial⟩ ?_
  refine gv_run 3 true hD (pc' := 17) (lv' := [(3, .inl 0), (2, .inl ((16 * (I 0 59)) + z31)), (1, .inl z31), (0, .inr (.inr (some 0)))]) (st' := []) (h' := gr_h I J) (C := (((True ∧ True) ∧ True) ∧ True)) rfl ⟨⟨⟨trivial, trivial⟩, trivial⟩, trivial⟩ ?_
  refine gv_pick [3, 2, 1, 0] rfl ?_
  exact L17 _ I J z31 (((16 * (I 0 59)) + z31)) 0 (Nat.lt_succ_self _) hI FI FJ KLK_I (by exact gz_m 26 (by omega)) (fun i a b => absurd b (by exact gz_m 27 (by omega)))
set_option maxHeartbeats 8000000 in
set_option maxRecDepth 100000 in
theorem r_context_p {ws0 : List Cond} {tb : String → gz_T} (hws : ∀ w ∈ gr_ws, w ∈ ws0) (htb : tb RX13 = gr_T) (ext : gz_Sh) (β : Int → Int) (N9 : Int) (p9 : Int) (I : gr_I) (J : gr_J) (hI : gr_Inv I) (a1 : Int) (ha1 : 0 ≤ a1 ∧ a1 ≤ 1) (x0 : I 0 71 = 5 ∨ I 0 73 ≤ I 0 69) (x1 : I 0 72 ≤ I 0 69) (x2 : I 0 71 = 0 ∨ (I 0 72 < I 0 73 ∧ I 0 72 < I 0 69)) (x3 : I 0 71 = 3 → 2 ≤ I 0 73 - I 0 72 ∧ I 0 73 - I 0 72 ≤ 14) (x4 : I 0 72 ≤ I 0 73) (x5 : 0 ≤ I 0 6) (x6 : I 0 59 + I 0 69 - I 0 72 ≤ 1900) (x7 : gr_ATp β N9 p9 I J) (x8 : 0 ≤ p9) : ∃ r h', gz_Ev ws0 tb 11 (yX13_context, cX13_context, 3, (some .boolean)) [.inr (.inr (some 0)), .inl a1] (gr_sh ++ ext) (gr_h I J) r (gr_sh ++ ext) h' 0 0 ∧ (∃ (I' : gr_I) (J' : gr_J), h' = gr_h I' J' ∧ gr_Inv I' ∧ gr_fr [59, 71, 72, 73, 74, 75, 76, 77, 104] [51] I I' ∧ gr_fj [59, 71, 72, 73, 74, 75, 76, 77, 104] [51] J J' ∧ (∃ z : Int, r = some (.inl z) ∧ 0 ≤ z ∧ z ≤ 1 ∧ (I' 0 71 = 5 ∨ I' 0 73 ≤ I' 0 69) ∧ (I' 0 72 ≤ I' 0 69) ∧ (I' 0 71 = 0 ∨ (I' 0 72 < I' 0 73 ∧ I' 0 72 < I' 0 69)) ∧ (I' 0 71 = 3 → 2 ≤ I' 0 73 - I' 0 72 ∧ I' 0 73 - I' 0 72 ≤ 14) ∧ (I' 0 72 ≤ I' 0 73) ∧ (I' 0 69 = I 0 69) ∧ (I 0 73 ≤ I' 0 73) ∧ (I 0 72 ≤ I' 0 72) ∧ (I' 0 59 - I' 0 72 ≤ I 0 59 - I 0 72) ∧ (z = 0 ∨ a1 = 1 ∨ (-16 ≤ I' 0 104 ∧ I' 0 104 ≤ 32015)) ∧ (gr_LKs I I') ∧ (gs_Or z (0 ≤ (gs_ctx β N9 I J a1 p9) ∧ gr_ATp β N9 (gs_ctx β N9 I J a1 p9) I' J' ∧ gs_cx β N9 I J p9 I') ((gs_ctx β N9 I J a1 p9) < 0 ∧ I' 0 77 = -1 - (gs_ctx β N9 I J a1 p9))))) := by
  have FI : gr_fr [59, 71, 72, 73, 74, 75, 76, 77, 104] [51] I I := fun _ _ _ => rfl
  have FJ : gr_fj [59, 71, 72, 73, 74, 75, 76, 77, 104] [51] J J := fun _ _ _ => rfl
  have hD : gv_D (gr_E ws0 tb 10 (yX13_context, cX13_context, 3, (some .boolean)) kX13_context) := gq_of oX13_context
  refine gr_ev (d := 10) (l := kX13_context) (Po := fun r h' => (∃ (I' : gr_I) (J' : gr_J), h' = gr_h I' J' ∧ gr_Inv I' ∧ gr_fr [59, 71, 72, 73, 74, 75, 76, 77, 104] [51] I I' ∧ gr_fj [59, 71, 72, 73, 74, 75, 76, 77, 104] [51] J J' ∧ (∃ z : Int, r = some (.inl z) ∧ 0 ≤ z ∧ z ≤ 1 ∧ (I' 0 71 = 5 ∨ I' 0 73 ≤ I' 0 69) ∧ (I' 0 72 ≤ I' 0 69) ∧ (I' 0 71 = 0 ∨ (I' 0 72 < I' 0 73 ∧ I' 0 72 < I' 0 69)) ∧ (I' 0 71 = 3 → 2 ≤ I' 0 73 - I' 0 72 ∧ I' 0 73 - I' 0 72 ≤ 14) ∧ (I' 0 72 ≤ I' 0 73) ∧ (I' 0 69 = I 0 69) ∧ (I 0 73 ≤ I' 0 73) ∧ (I 0 72 ≤ I' 0 72) ∧ (I' 0 59 - I' 0 72 ≤ I 0 59 - I 0 72) ∧ (z = 0 ∨ a1 = 1 ∨ (-16 ≤ I' 0 104 ∧ I' 0 104 ≤ 32015)) ∧ (gr_LKs I I') ∧ (gs_Or z (0 ≤ (gs_ctx β N9 I J a1 p9) ∧ gr_ATp β N9 (gs_ctx β N9 I J a1 p9) I' J' ∧ gs_cx β N9 I J p9 I') ((gs_ctx β N9 I J a1 p9) < 0 ∧ I' 0 77 = -1 - (gs_ctx β N9 I J a1 p9)))))) htb rfl (Nat.le_of_ble_eq_true rfl) ?_
  have tAT := gr_ATp_l x7
  have f1 := (gr_b_0_71 hI)
  have f2 := (gr_b_0_72 hI)
  have f3 := (gr_b_0_73 hI)
  have f4 := (gr_b_0_69 hI)
  have f5 := (gr_b_0_6 hI)
  have f6 := (gr_b_0_59 hI)
  have f7 := (gr_b_0_104 hI)
  have KLK_I : gr_LKs I I := gr_LKs_rf
  have f8 := (gr_b_0_71 hI)
  refine gv_run 3 true hD (pc' := 5) (lv' := [(0, .inr (.inr (some 0))), (1, .inl a1)]) (st' := [.inl 3, .inl (I 0 71)]) (h' := gr_h I J) (C := (((True ∧ True) ∧ True) ∧ True)) rfl ⟨⟨⟨trivial, trivial⟩, trivial⟩, trivial⟩ ?_
  refine gv_icmp_ne (t := 19) hD rfl rfl ⟨⟨by exact gz_m 0 (by omega), by exact gz_m 1 (by omega)⟩, ⟨by exact gz_m 2 (by omega), by exact gz_m 3 (by omega)⟩⟩ (fun c9 => ?_) (fun c9 => ?_)
  · have t10 := gr_ATp_k x7 (c := 3) ⟨by exact gz_m 4 (by omega), by exact gz_m 5 (by omega)⟩
    have f11 := (gr_b_0_71 hI)
    refine gv_run 3 true hD (pc' := 24) (lv' := [(0, .inr (.inr (some 0))), (1, .inl a1)]) (st' := [.inl 1, .inl (I 0 71)]) (h' := gr_h I J) (C := (((True ∧ True) ∧ True) ∧ True)) rfl ⟨⟨⟨trivial, trivial⟩, trivial⟩, trivial⟩ ?_
    refine gv_icmp_ne (t := 75) hD rfl rfl ⟨⟨by exact gz_m 6 (by omega), by exact gz_m 7 (by omega)⟩, ⟨by exact gz_m 8 (by omega), by exact gz_m 9 (by omega)⟩⟩ (fun c12 => ?_) (fun c12 => ?_)
    · have t13 := gr_ATp_k x7 (c := 1) ⟨by exact gz_m 10 (by omega), by exact gz_m 11 (by omega)⟩
      refine gv_run 1 true hD (pc' := 76) (lv' := [(0, .inr (.inr (some 0))), (1, .inl a1)]) (st' := [.inl a1]) (h' := gr_h I J) (C := (True ∧ True)) rfl ⟨trivial, trivial⟩ ?_
      refine gv_if_eq (t := 98) hD rfl rfl ⟨by exact gz_m 12 (by omega), by exact gz_m 13 (by omega)⟩ (fun c14 => ?_) (fun c14 => ?_)
      · refine gv_run 2 true hD (pc' := 100) (lv' := [(0, .inr (.inr (some 0))), (1, .inl a1)]) (st' := [.inl 1, .inr (.inr (some 0))]) (h' := gr_h I J) (C := ((True ∧ True) ∧ True)) rfl ⟨⟨trivial, trivial⟩, trivial⟩ ?_
        obtain ⟨r15, h15, E15, P15⟩ := r_no__p (ws0 := ws0) (tb := tb) hws htb ext β N9 p9 I J hI 1 ⟨by exact gz_m 14 (by omega), by exact gz_m 15 (by omega)⟩ x7 (by exact gz_m 16 (by omega))
        obtain ⟨I16, J17, rfl, hI16, g15, k15, ⟨z15, rfl, q15⟩⟩ := P15
        have FI16 := gr_frt FI g15 rfl rfl
        have FJ17 := gr_fjt FJ k15 rfl rfl
        have t18 := g15 0 71 rfl
        have t19 := g15 0 72 rfl
        have t20 := g15 0 73 rfl
        have t21 := g15 0 69 rfl
        have t22 := g15 0 6 rfl
        have t23 := g15 0 59 rfl
        have t24 := g15 0 104 rfl
        have f25 := (gr_b_0_71 hI16)
        have f26 := (gr_b_0_72 hI16)
        have f27 := (gr_b_0_73 hI16)
        have f28 := (gr_b_0_69 hI16)
        have f29 := (gr_b_0_6 hI16)
        have f30 := (gr_b_0_59 hI16)
        have f31 := (gr_b_0_104 hI16)
        have KLK_I16 := gr_LKs_fr KLK_I (fun k => g15 51 k rfl) (g15 0 59 rfl)
        have A32 := gr_ATp_F x7 g15 k15 rfl
        have t33 := gr_ATp_l A32
        refine gv_callV hD rfl (As := [.inl 1]) (st := []) rfl (by decide) rfl rfl (gr_lV hws rfl) (Nat.le_of_ble_eq_true rfl) (gz_Ev_mono (d := 2) (by decide) E15) ?_
        show gv_X _ _ (103, [(0, .inr (.inr (some 0))), (1, .inl a1)], [.inl z15], gr_sh ++ ext, gr_h I16 J17)
        have b34 : (I16 0 71 = 5 ∨ I16 0 73 ≤ I16 0 69) ∧ (I16 0 72 ≤ I16 0 69) ∧ (I16 0 71 = 0 ∨ (I16 0 72 < I16 0 73 ∧ I16 0 72 < I16 0 69)) ∧ (I16 0 71 = 3 → 2 ≤ I16 0 73 - I16 0 72 ∧ I16 0 73 - I16 0 72 ≤ 14) ∧ (I16 0 72 ≤ I16 0 73) ∧ (I16 0 69 = I 0 69) ∧ (I 0 73 ≤ I16 0 73) ∧ (I 0 72 ≤ I16 0 72) ∧ (I16 0 59 - I16 0 72 ≤ I 0 59 - I 0 72) ∧ ((z15 : Int) = 0 ∨ a1 = 1 ∨ (-16 ≤ I16 0 104 ∧ I16 0 104 ≤ 32015)) := by exact gz_m 17 (by omega)
        exact gv_zret hD rfl (by exact gz_m 18 (by omega)) ⟨I16, J17, rfl, hI16, FI16, FJ17, ⟨_, rfl, by exact gz_m 19 (by omega), by exact gz_m 20 (by omega), b34.1, b34.2.1, b34.2.2.1, b34.2.2.2.1, b34.2.2.2.2.1, b34.2.2.2.2.2.1, b34.2.2.2.2.2.2.1, b34.2.2.2.2.2.2.2.1, b34.2.2.2.2.2.2.2.2.1, b34.2.2.2.2.2.2.2.2.2, KLK_I16, (Or.inr ⟨by exact gz_m 21 (by omega), by unfold gs_ctx; (repeat first | rw [if_pos (by exact gz_m 22 (by omega))] | rw [if_neg (by exact gz_m 23 (by omega))]); exact ⟨by exact gz_m 24 (by omega), by exact gz_m 25 (by omega)⟩⟩)⟩⟩
      · refine gv_run 2 true hD (pc' := 82) (lv' := [(0, .inr (.inr (some 0))), (1, .inl a1)]) (st' := [.inl 35, .inr (.inr (some 0))]) (h' := gr_h I J) (C := ((True ∧ True) ∧ True)) rfl ⟨⟨trivial, trivial⟩, trivial⟩ ?_
        obtain ⟨r35, h35, E35, P35⟩ := r_sign_p (ws0 := ws0) (tb := tb) hws htb ext β N9 p9 I J hI 35 ⟨by exact gz_m 26 (by omega), by exact gz_m 27 (by omega)⟩ (by exact gz_m 28 (by omega)) x7 (by exact gz_m 29 (by omega))
        obtain ⟨rfl, ⟨z35, rfl, q35⟩⟩ := P35
        refine gv_callV hD rfl (As := [.inl 35]) (st := []) rfl (by decide) rfl rfl (gr_lV hws rfl) (Nat.le_of_ble_eq_true rfl) (gz_Ev_mono (d := 1) (by decide) E35) ?_
        show gv_X _ _ (85, [(0, .inr (.inr (some 0))), (1, .inl a1)], [.inl z35], gr_sh ++ ext, gr_h I J)
        refine gv_if_eq (t := 98) hD rfl rfl ⟨by exact gz_m 30 (by omega), by exact gz_m 31 (by omega)⟩ (fun c36 => ?_) (fun c36 => ?_)
        · refine gv_run 2 true hD (pc' := 100) (lv' := [(0, .inr (.inr (some 0))), (1, .inl a1)]) (st' := [.inl 1, .inr (.inr (some 0))]) (h' := gr_h I J) (C := ((True ∧ True) ∧ True)) rfl ⟨⟨trivial, trivial⟩, trivial⟩ ?_
          obtain ⟨r37, h37, E37, P37⟩ := r_no__p (ws0 := ws0) (tb := tb) hws htb ext β N9 p9 I J hI 1 ⟨by exact gz_m 32 (by omega), by exact gz_m 33 (by omega)⟩ x7 (by exact gz_m 34 (by omega))
          obtain ⟨I38, J39, rfl, hI38, g37, k37, ⟨z37, rfl, q37⟩⟩ := P37
          have FI38 := gr_frt FI g37 rfl rfl
          have FJ39 := gr_fjt FJ k37 rfl rfl
          have t40 := g37 0 71 rfl
          have t41 := g37 0 72 rfl
          have t42 := g37 0 73 rfl
          have t43 := g37 0 69 rfl
          have t44 := g37 0 6 rfl
          have t45 := g37 0 59 rfl
          have t46 := g37 0 104 rfl
          have f47 := (gr_b_0_71 hI38)
          have f48 := (gr_b_0_72 hI38)
          have f49 := (gr_b_0_73 hI38)
          have f50 := (gr_b_0_69 hI38)
          have f51 := (gr_b_0_6 hI38)
          have f52 := (gr_b_0_59 hI38)
          have f53 := (gr_b_0_104 hI38)
          have KLK_I38 := gr_LKs_fr KLK_I (fun k => g37 51 k rfl) (g37 0 59 rfl)
          have A54 := gr_ATp_F x7 g37 k37 rfl
          have t55 := gr_ATp_l A54
          refine gv_callV hD rfl (As := [.inl 1]) (st := []) rfl (by decide) rfl rfl (gr_lV hws rfl) (Nat.le_of_ble_eq_true rfl) (gz_Ev_mono (d := 2) (by decide) E37) ?_
          show gv_X _ _ (103, [(0, .inr (.inr (some 0))), (1, .inl a1)], [.inl z37], gr_sh ++ ext, gr_h I38 J39)
          have b56 : (I38 0 71 = 5 ∨ I38 0 73 ≤ I38 0 69) ∧ (I38 0 72 ≤ I38 0 69) ∧ (I38 0 71 = 0 ∨ (I38 0 72 < I38 0 73 ∧ I38 0 72 < I38 0 69)) ∧ (I38 0 71 = 3 → 2 ≤ I38 0 73 - I38 0 72 ∧ I38 0 73 - I38 0 72 ≤ 14) ∧ (I38 0 72 ≤ I38 0 73) ∧ (I38 0 69 = I 0 69) ∧ (I 0 73 ≤ I38 0 73) ∧ (I 0 72 ≤ I38 0 72) ∧ (I38 0 59 - I38 0 72 ≤ I 0 59 - I 0 72) ∧ ((z37 : Int) = 0 ∨ a1 = 1 ∨ (-16 ≤ I38 0 104 ∧ I38 0 104 ≤ 32015)) := by exact gz_m 35 (by omega)
          exact gv_zret hD rfl (by exact gz_m 36 (by omega)) ⟨I38, J39, rfl, hI38, FI38, FJ39, ⟨_, rfl, by exact gz_m 37 (by omega), by exact gz_m 38 (by omega), b56.1, b56.2.1, b56.2.2.1, b56.2.2.2.1, b56.2.2.2.2.1, b56.2.2.2.2.2.1, b56.2.2.2.2.2.2.1, b56.2.2.2.2.2.2.2.1, b56.2.2.2.2.2.2.2.2.1, b56.2.2.2.2.2.2.2.2.2, KLK_I38, (Or.inr ⟨by exact gz_m 39 (by omega), by unfold gs_ctx; (repeat first | rw [if_pos (by exact gz_m 40 (by omega))] | rw [if_neg (by exact gz_m 41 (by omega))]); exact ⟨by exact gz_m 42 (by omega), by exact gz_m 43 (by omega)⟩⟩)⟩⟩
        · refine gv_run 3 true hD (pc' := 95) (lv' := [(0, .inr (.inr (some 0))), (1, .inl a1)]) (st' := []) (h' := gz_up (gr_h I J) 0 104 (.inl (-2147483648))) (C := (((True ∧ True) ∧ True) ∧ True)) rfl ⟨⟨⟨trivial, trivial⟩, trivial⟩, trivial⟩ ?_
          refine gr_st hI FI rfl rfl ⟨⟨by show (-2147483648) ≤ _; exact gz_m 44 (by omega), by show _ ≤ 2147483647; exact gz_m 45 (by omega)⟩, by show ((-2147483648) = -2147483648 ∨ (-2147483648) = 2147483647 ∨ -16 ≤ (-2147483648) ∧ (-2147483648) ≤ 32015); exact gz_m 46 (by omega)⟩ (fun I57 hI57 FI57 q58 p58 => ?_)
          have t59 := p58 0 71 (by decide)
          have t60 := p58 0 72 (by decide)
          have t61 := p58 0 73 (by decide)
          have t62 := p58 0 69 (by decide)
          have t63 := p58 0 6 (by decide)
          have t64 := p58 0 59 (by decide)
          have f65 := (gr_b_0_71 hI57)
          have f66 := (gr_b_0_72 hI57)
          have f67 := (gr_b_0_73 hI57)
          have f68 := (gr_b_0_69 hI57)
          have f69 := (gr_b_0_6 hI57)
          have f70 := (gr_b_0_59 hI57)
          have f71 := (gr_b_0_104 hI57)
          have KLK_I57 := gr_LKs_fr KLK_I (fun k => p58 51 k (fun q => absurd q.1 (by decide))) (p58 0 59 (by decide))
          have A72 := gr_ATp_sf x7 p58 rfl
          refine gv_run 2 true hD (pc' := 105) (lv' := [(0, .inr (.inr (some 0))), (1, .inl a1)]) (st' := [.inr (.inr (some 0))]) (h' := gr_h I57 J) (C := ((True ∧ True) ∧ True)) rfl ⟨⟨trivial, trivial⟩, trivial⟩ ?_
          obtain ⟨r73, h73, E73, P73⟩ := r_next_p (ws0 := ws0) (tb := tb) hws htb ext β N9 I57 J hI57   (by exact gz_m 47 (by omega)) A72.1.1 A72.1.2
          obtain ⟨I74, J75, rfl, hI74, g73, k73, ⟨rfl, q73⟩⟩ := P73
          have FI74 := gr_frt FI57 g73 rfl rfl
          have FJ75 := gr_fjt FJ k73 rfl rfl
          have t76 := g73 0 69 rfl
          have t77 := g73 0 6 rfl
          have t78 := g73 0 59 rfl
          have t79 := g73 0 104 rfl
          have f80 := (gr_b_0_71 hI74)
          have f81 := (gr_b_0_72 hI74)
          have f82 := (gr_b_0_73 hI74)
          have f83 := (gr_b_0_69 hI74)
          have f84 := (gr_b_0_6 hI74)
          have f85 := (gr_b_0_59 hI74)
          have f86 := (gr_b_0_104 hI74)
          have KLK_I74 := gr_LKs_fr KLK_I57 (fun k => g73 51 k rfl) (g73 0 59 rfl)
          have A87 := gr_ATp_nx A72 q73.2.2.2.2.2
          have t88 := gr_ATp_l A87
          refine gv_callV hD rfl (As := []) (st := []) rfl (by decide) rfl rfl (gr_lV hws rfl) (Nat.le_of_ble_eq_true rfl) (gz_Ev_mono (d := 10) (by decide) E73) ?_
          show gv_X _ _ (108, [(0, .inr (.inr (some 0))), (1, .inl a1)], [], gr_sh ++ ext, gr_h I74 J75)
          refine gv_run 1 true hD (pc' := 109) (lv' := [(0, .inr (.inr (some 0))), (1, .inl a1)]) (st' := [.inl 1]) (h' := gr_h I74 J75) (C := (True ∧ True)) rfl ⟨trivial, trivial⟩ ?_
          have b89 : (I74 0 71 = 5 ∨ I74 0 73 ≤ I74 0 69) ∧ (I74 0 72 ≤ I74 0 69) ∧ (I74 0 71 = 0 ∨ (I74 0 72 < I74 0 73 ∧ I74 0 72 < I74 0 69)) ∧ (I74 0 71 = 3 → 2 ≤ I74 0 73 - I74 0 72 ∧ I74 0 73 - I74 0 72 ≤ 14) ∧ (I74 0 72 ≤ I74 0 73) ∧ (I74 0 69 = I 0 69) ∧ (I 0 73 ≤ I74 0 73) ∧ (I 0 72 ≤ I74 0 72) ∧ (I74 0 59 - I74 0 72 ≤ I 0 59 - I 0 72) ∧ ((1 : Int) = 0 ∨ a1 = 1 ∨ (-16 ≤ I74 0 104 ∧ I74 0 104 ≤ 32015)) := by exact gz_m 48 (by omega)
          exact gv_zret hD rfl (by exact gz_m 49 (by omega)) ⟨I74, J75, rfl, hI74, FI74, FJ75, ⟨_, rfl, by exact gz_m 50 (by omega), by exact gz_m 51 (by omega), b89.1, b89.2.1, b89.2.2.1, b89.2.2.2.1, b89.2.2.2.2.1, b89.2.2.2.2.2.1, b89.2.2.2.2.2.2.1, b89.2.2.2.2.2.2.2.1, b89.2.2.2.2.2.2.2.2.1, b89.2.2.2.2.2.2.2.2.2, KLK_I74, (Or.inl ⟨by exact gz_m 52 (by omega), by have e9 : (gs_ctx β N9 I J a1 p9) = (gs_X β N9 p9) := (by unfold gs_ctx; (repeat first | rw [if_pos (by exact gz_m 53 (by omega))] | rw [if_neg (by exact gz_m 54 (by omega))])); have u9 : gs_cx β N9 I J p9 I74 := (gs_itx_x (by rw [gs_ti_2 (by exact gz_m 55 (by omega)) (by exact gz_m 56 (by omega))]; exact gs_itx_e rfl) ((g73 0 104 rfl).trans q58)); rw [e9]; exact ⟨by exact gz_m 57 (by omega), A87, u9⟩⟩)⟩⟩
    · have t90 := gr_ATp_k x7 (c := 1) ⟨by exact gz_m 58 (by omega), by exact gz_m 59 (by omega)⟩
      have f91 := (gr_b_0_6 hI)
      refine gv_run 7 true hD (pc' := 39) (lv' := [(0, .inr (.inr (some 0))), (1, .inl a1)]) (st' := [.inr (.inr (some 0)), .inl (16 * (I 0 6)), .inr (.inr (some 22))]) (h' := gr_h I J) (C := (((((((True ∧ True) ∧ True) ∧ True) ∧ True) ∧ True) ∧ True) ∧ True)) rfl ⟨⟨⟨⟨⟨⟨⟨trivial, trivial⟩, trivial⟩, trivial⟩, trivial⟩, trivial⟩, trivial⟩, trivial⟩ ?_
      have f92 := (gr_b_0_6 hI)
      have f93 := (gr_b_15 hI (Int.toNat ((I 0 6))))
      refine gv_run 4 true hD (pc' := 47) (lv' := [(0, .inr (.inr (some 0))), (1, .inl a1)]) (st' := [.inl (I 15 (Int.toNat ((I 0 6)))), .inl (16 * (I 0 6)), .inr (.inr (some 22))]) (h' := gr_h I J) (C := ((((True ∧ True) ∧ True) ∧ True) ∧ (0 ≤ (I 0 6) ∧ (I 0 6) < ((8 : Nat) : Int)))) rfl ⟨⟨⟨⟨trivial, trivial⟩, trivial⟩, trivial⟩, ⟨by exact gz_m 60 (by omega), by exact gz_m 61 (by omega)⟩⟩ ?_
      refine gv_run 2 true hD (pc' := 51) (lv' := [(0, .inr (.inr (some 0))), (1, .inl a1)]) (st' := [.inr (.inl (J 0 75)), .inl (I 15 (Int.toNat ((I 0 6)))), .inl (16 * (I 0 6)), .inr (.inr (some 22))]) (h' := gr_h I J) (C := ((True ∧ True) ∧ True)) rfl ⟨⟨trivial, trivial⟩, trivial⟩ ?_
      obtain ⟨r94, h94, E94, P94⟩ := r_find_22_p (ws0 := ws0) (tb := tb) hws htb ext I J hI ((16 * (I 0 6))) ((I 15 (Int.toNat ((I 0 6))))) (J 0 75) ⟨by exact gz_m 62 (by omega), by exact gz_m 63 (by omega)⟩ ⟨by exact gz_m 64 (by omega), by exact gz_m 65 (by omega)⟩ (by exact gz_m 66 (by omega))
      obtain ⟨rfl, ⟨z94, rfl, q94⟩⟩ := P94
      have t95 := q94.2.2.2.trans (gs_lt_eq (J := J) (row := 22) (o := 16 * I 0 6) (n := I 15 (Int.toNat (I 0 6))) (w := gs_rn β N9 p9) (fun k => rfl) (by exact gz_m 67 (by omega)) (by first | exact rfl | (rw [show ((I 0 6)) = I 0 6 from by exact gz_m 68 (by omega)]; exact rfl)) (gr_ATp_w x7))
      refine gv_callS hD rfl (As := [.inr (.inr (some 22)), .inl (16 * (I 0 6)), .inl (I 15 (Int.toNat ((I 0 6)))), .inr (.inl (J 0 75))]) (st := []) rfl (gr_lS hws rfl) (Nat.le_of_ble_eq_true rfl) (gz_Ev_mono (d := 1) (by decide) E94) ?_
      show gv_X _ _ (54, [(0, .inr (.inr (some 0))), (1, .inl a1)], [.inl z94], gr_sh ++ ext, gr_h I J)
      refine gv_run 2 true hD (pc' := 56) (lv' := [(2, .inl z94), (0, .inr (.inr (some 0))), (1, .inl a1)]) (st' := [.inl z94]) (h' := gr_h I J) (C := ((True ∧ True) ∧ True)) rfl ⟨⟨trivial, trivial⟩, trivial⟩ ?_
      refine gv_if_ge (t := 65) hD rfl rfl ⟨by exact gz_m 69 (by omega), by exact gz_m 70 (by omega)⟩ (fun c96 => ?_) (fun c96 => ?_)
      · refine gv_run 4 true hD (pc' := 69) (lv' := [(2, .inl z94), (0, .inr (.inr (some 0))), (1, .inl a1)]) (st' := [.inl ((-1) - z94), .inr (.inr (some 0))]) (h' := gr_h I J) (C := ((((True ∧ True) ∧ True) ∧ True) ∧ True)) rfl ⟨⟨⟨⟨trivial, trivial⟩, trivial⟩, trivial⟩, trivial⟩ ?_
        refine gv_run 1 true hD (pc' := 72) (lv' := [(2, .inl z94), (0, .inr (.inr (some 0))), (1, .inl a1)]) (st' := []) (h' := gz_up (gr_h I J) 0 104 (.inl (((-1) - z94)))) (C := (True ∧ True)) rfl ⟨trivial, trivial⟩ ?_
        refine gr_st hI FI rfl rfl ⟨⟨by show (-2147483648) ≤ _; exact gz_m 71 (by omega), by show _ ≤ 2147483647; exact gz_m 72 (by omega)⟩, by show ((((-1) - z94)) = -2147483648 ∨ (((-1) - z94)) = 2147483647 ∨ -16 ≤ (((-1) - z94)) ∧ (((-1) - z94)) ≤ 32015); exact gz_m 73 (by omega)⟩ (fun I97 hI97 FI97 q98 p98 => ?_)
        have t99 := p98 0 71 (by decide)
        have t100 := p98 0 72 (by decide)
        have t101 := p98 0 73 (by decide)
        have t102 := p98 0 69 (by decide)
        have t103 := p98 0 6 (by decide)
        have t104 := p98 0 59 (by decide)
        have f105 := (gr_b_0_71 hI97)
        have f106 := (gr_b_0_72 hI97)
        have f107 := (gr_b_0_73 hI97)
        have f108 := (gr_b_0_69 hI97)
        have f109 := (gr_b_0_6 hI97)
        have f110 := (gr_b_0_59 hI97)
        have f111 := (gr_b_0_104 hI97)
        have KLK_I97 := gr_LKs_fr KLK_I (fun k => p98 51 k (fun q => absurd q.1 (by decide))) (p98 0 59 (by decide))
        have A112 := gr_ATp_sf x7 p98 rfl
        refine gv_run 2 true hD (pc' := 105) (lv' := [(2, .inl z94), (0, .inr (.inr (some 0))), (1, .inl a1)]) (st' := [.inr (.inr (some 0))]) (h' := gr_h I97 J) (C := ((True ∧ True) ∧ True)) rfl ⟨⟨trivial, trivial⟩, trivial⟩ ?_
        obtain ⟨r113, h113, E113, P113⟩ := r_next_p (ws0 := ws0) (tb := tb) hws htb ext β N9 I97 J hI97   (by exact gz_m 74 (by omega)) A112.1.1 A112.1.2
        obtain ⟨I114, J115, rfl, hI114, g113, k113, ⟨rfl, q113⟩⟩ := P113
        have FI114 := gr_frt FI97 g113 rfl rfl
        have FJ115 := gr_fjt FJ k113 rfl rfl
        have t116 := g113 0 69 rfl
        have t117 := g113 0 6 rfl
        have t118 := g113 0 59 rfl
        have t119 := g113 0 104 rfl
        have f120 := (gr_b_0_71 hI114)
        have f121 := (gr_b_0_72 hI114)
        have f122 := (gr_b_0_73 hI114)
        have f123 := (gr_b_0_69 hI114)
        have f124 := (gr_b_0_6 hI114)
        have f125 := (gr_b_0_59 hI114)
        have f126 := (gr_b_0_104 hI114)
        have KLK_I114 := gr_LKs_fr KLK_I97 (fun k => g113 51 k rfl) (g113 0 59 rfl)
        have A127 := gr_ATp_nx A112 q113.2.2.2.2.2
        have t128 := gr_ATp_l A127
        refine gv_callV hD rfl (As := []) (st := []) rfl (by decide) rfl rfl (gr_lV hws rfl) (Nat.le_of_ble_eq_true rfl) (gz_Ev_mono (d := 10) (by decide) E113) ?_
        show gv_X _ _ (108, [(2, .inl z94), (0, .inr (.inr (some 0))), (1, .inl a1)], [], gr_sh ++ ext, gr_h I114 J115)
        refine gv_run 1 true hD (pc' := 109) (lv' := [(2, .inl z94), (0, .inr (.inr (some 0))), (1, .inl a1)]) (st' := [.inl 1]) (h' := gr_h I114 J115) (C := (True ∧ True)) rfl ⟨trivial, trivial⟩ ?_
        have b129 : (I114 0 71 = 5 ∨ I114 0 73 ≤ I114 0 69) ∧ (I114 0 72 ≤ I114 0 69) ∧ (I114 0 71 = 0 ∨ (I114 0 72 < I114 0 73 ∧ I114 0 72 < I114 0 69)) ∧ (I114 0 71 = 3 → 2 ≤ I114 0 73 - I114 0 72 ∧ I114 0 73 - I114 0 72 ≤ 14) ∧ (I114 0 72 ≤ I114 0 73) ∧ (I114 0 69 = I 0 69) ∧ (I 0 73 ≤ I114 0 73) ∧ (I 0 72 ≤ I114 0 72) ∧ (I114 0 59 - I114 0 72 ≤ I 0 59 - I 0 72) ∧ ((1 : Int) = 0 ∨ a1 = 1 ∨ (-16 ≤ I114 0 104 ∧ I114 0 104 ≤ 32015)) := by exact gz_m 75 (by omega)
        exact gv_zret hD rfl (by exact gz_m 76 (by omega)) ⟨I114, J115, rfl, hI114, FI114, FJ115, ⟨_, rfl, by exact gz_m 77 (by omega), by exact gz_m 78 (by omega), b129.1, b129.2.1, b129.2.2.1, b129.2.2.2.1, b129.2.2.2.2.1, b129.2.2.2.2.2.1, b129.2.2.2.2.2.2.1, b129.2.2.2.2.2.2.2.1, b129.2.2.2.2.2.2.2.2.1, b129.2.2.2.2.2.2.2.2.2, KLK_I114, (Or.inl ⟨by exact gz_m 79 (by omega), by have e9 : (gs_ctx β N9 I J a1 p9) = (gs_X β N9 p9) := (by unfold gs_ctx; (repeat first | rw [if_pos (by exact gz_m 80 (by omega))] | rw [if_neg (by exact gz_m 81 (by omega))])); have u9 : gs_cx β N9 I J p9 I114 := (gs_itx_x (x := -1 - z94) (by rw [gs_ti_1 (by exact gz_m 82 (by omega)), ← t95]; exact gs_itx_c ⟨by exact gz_m 83 (by omega), by exact gz_m 84 (by omega)⟩ rfl (by exact gz_m 85 (by omega))) (((g113 0 104 rfl).trans q98).trans (by exact gz_m 86 (by omega)))); rw [e9]; exact ⟨by exact gz_m 87 (by omega), A127, u9⟩⟩)⟩⟩
      · refine gv_run 2 true hD (pc' := 61) (lv' := [(2, .inl z94), (0, .inr (.inr (some 0))), (1, .inl a1)]) (st' := [.inl 5, .inr (.inr (some 0))]) (h' := gr_h I J) (C := ((True ∧ True) ∧ True)) rfl ⟨⟨trivial, trivial⟩, trivial⟩ ?_
        obtain ⟨r130, h130, E130, P130⟩ := r_no__p (ws0 := ws0) (tb := tb) hws htb ext β N9 p9 I J hI 5 ⟨by exact gz_m 88 (by omega), by exact gz_m 89 (by omega)⟩ x7 (by exact gz_m 90 (by omega))
        obtain ⟨I131, J132, rfl, hI131, g130, k130, ⟨z130, rfl, q130⟩⟩ := P130
        have FI131 := gr_frt FI g130 rfl rfl
        have FJ132 := gr_fjt FJ k130 rfl rfl
        have t133 := g130 0 71 rfl
        have t134 := g130 0 72 rfl
        have t135 := g130 0 73 rfl
        have t136 := g130 0 69 rfl
        have t137 := g130 0 6 rfl
        have t138 := g130 0 59 rfl
        have t139 := g130 0 104 rfl
        have f140 := (gr_b_0_71 hI131)
        have f141 := (gr_b_0_72 hI131)
        have f142 := (gr_b_0_73 hI131)
        have f143 := (gr_b_0_69 hI131)
        have f144 := (gr_b_0_6 hI131)
        have f145 := (gr_b_0_59 hI131)
        have f146 := (gr_b_0_104 hI131)
        have KLK_I131 := gr_LKs_fr KLK_I (fun k => g130 51 k rfl) (g130 0 59 rfl)
        have A147 := gr_ATp_F x7 g130 k130 rfl
        have t148 := gr_ATp_l A147
        refine gv_callV hD rfl (As := [.inl 5]) (st := []) rfl (by decide) rfl rfl (gr_lV hws rfl) (Nat.le_of_ble_eq_true rfl) (gz_Ev_mono (d := 2) (by decide) E130) ?_
        show gv_X _ _ (64, [(2, .inl z94), (0, .inr (.inr (some 0))), (1, .inl a1)], [.inl z130], gr_sh ++ ext, gr_h I131 J132)
        have b149 : (I131 0 71 = 5 ∨ I131 0 73 ≤ I131 0 69) ∧ (I131 0 72 ≤ I131 0 69) ∧ (I131 0 71 = 0 ∨ (I131 0 72 < I131 0 73 ∧ I131 0 72 < I131 0 69)) ∧ (I131 0 71 = 3 → 2 ≤ I131 0 73 - I131 0 72 ∧ I131 0 73 - I131 0 72 ≤ 14) ∧ (I131 0 72 ≤ I131 0 73) ∧ (I131 0 69 = I 0 69) ∧ (I 0 73 ≤ I131 0 73) ∧ (I 0 72 ≤ I131 0 72) ∧ (I131 0 59 - I131 0 72 ≤ I 0 59 - I 0 72) ∧ ((z130 : Int) = 0 ∨ a1 = 1 ∨ (-16 ≤ I131 0 104 ∧ I131 0 104 ≤ 32015)) := by exact gz_m 91 (by omega)
        exact gv_zret hD rfl (by exact gz_m 92 (by omega)) ⟨I131, J132, rfl, hI131, FI131, FJ132, ⟨_, rfl, by exact gz_m 93 (by omega), by exact gz_m 94 (by omega), b149.1, b149.2.1, b149.2.2.1, b149.2.2.2.1, b149.2.2.2.2.1, b149.2.2.2.2.2.1, b149.2.2.2.2.2.2.1, b149.2.2.2.2.2.2.2.1, b149.2.2.2.2.2.2.2.2.1, b149.2.2.2.2.2.2.2.2.2, KLK_I131, (Or.inr ⟨by exact gz_m 95 (by omega), by unfold gs_ctx; (repeat first | rw [if_pos (by exact gz_m 96 (by omega))] | rw [if_neg (by exact gz_m 97 (by omega))]); exact ⟨by exact gz_m 98 (by omega), by exact gz_m 99 (by omega)⟩⟩)⟩⟩
  · have t150 := gr_ATp_k x7 (c := 3) ⟨by exact gz_m 100 (by omega), by exact gz_m 101 (by omega)⟩
    refine gv_run 2 true hD (pc' := 10) (lv' := [(0, .inr (.inr (some 0))), (1, .inl a1)]) (st' := [.inr (.inr (some 0)), .inr (.inr (some 0))]) (h' := gr_h I J) (C := ((True ∧ True) ∧ True)) rfl ⟨⟨trivial, trivial⟩, trivial⟩ ?_
    obtain ⟨r151, h151, E151, P151⟩ := r_keeps_p (ws0 := ws0) (tb := tb) hws htb ext I J hI   (by exact gz_m 102 (by omega)) (by exact gz_m 103 (by omega)) (by exact gz_m 104 (by omega)) (by exact gz_m 105 (by omega))
    obtain ⟨I152, J153, rfl, hI152, g151, k151, ⟨z151, rfl, q151⟩⟩ := P151
    have FI152 := gr_frt FI g151 rfl rfl
    have FJ153 := gr_fjt FJ k151 rfl rfl
    have t154 := g151 0 71 rfl
    have t155 := g151 0 72 rfl
    have t156 := g151 0 73 rfl
    have t157 := g151 0 69 rfl
    have t158 := g151 0 6 rfl
    have t159 := g151 0 104 rfl
    have f160 := (gr_b_0_71 hI152)
    have f161 := (gr_b_0_72 hI152)
    have f162 := (gr_b_0_73 hI152)
    have f163 := (gr_b_0_69 hI152)
    have f164 := (gr_b_0_6 hI152)
    have f165 := (gr_b_0_59 hI152)
    have f166 := (gr_b_0_104 hI152)
    have l151 := q151.2.2.2.2.1
    have KLK_I152 := gr_LKs_tr KLK_I l151
    have A167 := gr_ATp_F x7 g151 k151 rfl
    have t168 := gr_ATp_l A167
    refine gv_callV hD rfl (As := []) (st := [.inr (.inr (some 0))]) rfl (by decide) rfl rfl (gr_lV hws rfl) (Nat.le_of_ble_eq_true rfl) (gz_Ev_mono (d := 2) (by decide) E151) ?_
    show gv_X _ _ (13, [(0, .inr (.inr (some 0))), (1, .inl a1)], [.inl z151, .inr (.inr (some 0))], gr_sh ++ ext, gr_h I152 J153)
    refine gv_run 1 true hD (pc' := 16) (lv' := [(0, .inr (.inr (some 0))), (1, .inl a1)]) (st' := []) (h' := gz_up (gr_h I152 J153) 0 104 (.inl z151)) (C := (True ∧ True)) rfl ⟨trivial, trivial⟩ ?_
    refine gr_st hI152 FI152 rfl rfl ⟨⟨by show (-2147483648) ≤ _; exact gz_m 106 (by omega), by show _ ≤ 2147483647; exact gz_m 107 (by omega)⟩, by show (z151 = -2147483648 ∨ z151 = 2147483647 ∨ -16 ≤ z151 ∧ z151 ≤ 32015); exact gz_m 108 (by omega)⟩ (fun I169 hI169 FI169 q170 p170 => ?_)
    have t171 := p170 0 71 (by decide)
    have t172 := p170 0 72 (by decide)
    have t173 := p170 0 73 (by decide)
    have t174 := p170 0 69 (by decide)
    have t175 := p170 0 6 (by decide)
    have t176 := p170 0 59 (by decide)
    have f177 := (gr_b_0_71 hI169)
    have f178 := (gr_b_0_72 hI169)
    have f179 := (gr_b_0_73 hI169)
    have f180 := (gr_b_0_69 hI169)
    have f181 := (gr_b_0_6 hI169)
    have f182 := (gr_b_0_59 hI169)
    have f183 := (gr_b_0_104 hI169)
    have KLK_I169 := gr_LKs_fr KLK_I152 (fun k => p170 51 k (fun q => absurd q.1 (by decide))) (p170 0 59 (by decide))
    have A184 := gr_ATp_sf A167 p170 rfl
    refine gv_run 2 true hD (pc' := 105) (lv' := [(0, .inr (.inr (some 0))), (1, .inl a1)]) (st' := [.inr (.inr (some 0))]) (h' := gr_h I169 J153) (C := ((True ∧ True) ∧ True)) rfl ⟨⟨trivial, trivial⟩, trivial⟩ ?_
    obtain ⟨r185, h185, E185, P185⟩ := r_next_p (ws0 := ws0) (tb := tb) hws htb ext β N9 I169 J153 hI169   (by exact gz_m 109 (by omega)) A184.1.1 A184.1.2
    obtain ⟨I186, J187, rfl, hI186, g185, k185, ⟨rfl, q185⟩⟩ := P185
    have FI186 := gr_frt FI169 g185 rfl rfl
    have FJ187 := gr_fjt FJ153 k185 rfl rfl
    have t188 := g185 0 69 rfl
    have t189 := g185 0 6 rfl
    have t190 := g185 0 59 rfl
    have t191 := g185 0 104 rfl
    have f192 := (gr_b_0_71 hI186)
    have f193 := (gr_b_0_72 hI186)
    have f194 := (gr_b_0_73 hI186)
    have f195 := (gr_b_0_69 hI186)
    have f196 := (gr_b_0_6 hI186)
    have f197 := (gr_b_0_59 hI186)
    have f198 := (gr_b_0_104 hI186)
    have KLK_I186 := gr_LKs_fr KLK_I169 (fun k => g185 51 k rfl) (g185 0 59 rfl)
    have A199 := gr_ATp_nx A184 q185.2.2.2.2.2
    have t200 := gr_ATp_l A199
    refine gv_callV hD rfl (As := []) (st := []) rfl (by decide) rfl rfl (gr_lV hws rfl) (Nat.le_of_ble_eq_true rfl) (gz_Ev_mono (d := 10) (by decide) E185) ?_
    show gv_X _ _ (108, [(0, .inr (.inr (some 0))), (1, .inl a1)], [], gr_sh ++ ext, gr_h I186 J187)
    refine gv_run 1 true hD (pc' := 109) (lv' := [(0, .inr (.inr (some 0))), (1, .inl a1)]) (st' := [.inl 1]) (h' := gr_h I186 J187) (C := (True ∧ True)) rfl ⟨trivial, trivial⟩ ?_
    have b201 : (I186 0 71 = 5 ∨ I186 0 73 ≤ I186 0 69) ∧ (I186 0 72 ≤ I186 0 69) ∧ (I186 0 71 = 0 ∨ (I186 0 72 < I186 0 73 ∧ I186 0 72 < I186 0 69)) ∧ (I186 0 71 = 3 → 2 ≤ I186 0 73 - I186 0 72 ∧ I186 0 73 - I186 0 72 ≤ 14) ∧ (I186 0 72 ≤ I186 0 73) ∧ (I186 0 69 = I 0 69) ∧ (I 0 73 ≤ I186 0 73) ∧ (I 0 72 ≤ I186 0 72) ∧ (I186 0 59 - I186 0 72 ≤ I 0 59 - I 0 72) ∧ ((1 : Int) = 0 ∨ a1 = 1 ∨ (-16 ≤ I186 0 104 ∧ I186 0 104 ≤ 32015)) := by exact gz_m 110 (by omega)
    exact gv_zret hD rfl (by exact gz_m 111 (by omega)) ⟨I186, J187, rfl, hI186, FI186, FJ187, ⟨_, rfl, by exact gz_m 112 (by omega), by exact gz_m 113 (by omega), b201.1, b201.2.1, b201.2.2.1, b201.2.2.2.1, b201.2.2.2.2.1, b201.2.2.2.2.2.1, b201.2.2.2.2.2.2.1, b201.2.2.2.2.2.2.2.1, b201.2.2.2.2.2.2.2.2.1, b201.2.2.2.2.2.2.2.2.2, KLK_I186, (Or.inl ⟨by exact gz_m 114 (by omega), by have e9 : (gs_ctx β N9 I J a1 p9) = (gs_X β N9 p9) := (by unfold gs_ctx; (repeat first | rw [if_pos (by exact gz_m 115 (by omega))] | rw [if_neg (by exact gz_m 116 (by omega))])); have u9 : gs_cx β N9 I J p9 I186 := (gs_itx_x (by rw [gs_ti_3 (by exact gz_m 117 (by omega))]; exact gs_itx_tl x7 (by exact gz_m 118 (by omega)) (by exact gz_m 119 (by omega)) (by exact gz_m 120 (by omega)) q151.2.2.2.2.2.2 q151.2.2.2.2.2.1 (by exact gz_m 121 (by omega)) (by exact gz_m 122 (by omega)) q151.2.2.1 (fun j => ((g185 51 j rfl).trans (p170 51 j (fun q => absurd q.1 (by decide))))) ((g185 0 59 rfl).trans (p170 0 59 (by decide)))) ((g185 0 104 rfl).trans q170)); rw [e9]; exact ⟨by exact gz_m 123 (by omega), A199, u9⟩⟩)⟩⟩
set_option maxHeartbeats 8000000 in
set_option maxRecDepth 100000 in
theorem r_side_p {ws0 : List Cond} {tb : String → gz_T} (hws : ∀ w ∈ gr_ws, w ∈ ws0) (htb : tb RX13 = gr_T) (ext : gz_Sh) (β : Int → Int) (N9 : Int) (p9 : Int) (I : gr_I) (J : gr_J) (hI : gr_Inv I) (a1 : Int) (ha1 : 0 ≤ a1 ∧ a1 ≤ 3) (x0 : I 0 71 = 5 ∨ I 0 73 ≤ I 0 69) (x1 : I 0 72 ≤ I 0 69) (x2 : I 0 71 = 0 ∨ (I 0 72 < I 0 73 ∧ I 0 72 < I 0 69)) (x3 : I 0 71 = 3 → 2 ≤ I 0 73 - I 0 72 ∧ I 0 73 - I 0 72 ≤ 14) (x4 : I 0 72 ≤ I 0 73) (x5 : 0 ≤ I 0 6) (x6 : I 0 59 + I 0 69 - I 0 72 ≤ 1900) (x7 : gr_ATp β N9 p9 I J) (x8 : 0 ≤ p9) : ∃ r h', gz_Ev ws0 tb 12 (yX13_side, cX13_side, 3, (some .boolean)) [.inr (.inr (some 0)), .inl a1] (gr_sh ++ ext) (gr_h I J) r (gr_sh ++ ext) h' 0 0 ∧ (∃ (I' : gr_I) (J' : gr_J), h' = gr_h I' J' ∧ gr_Inv I' ∧ gr_fr [59, 71, 72, 73, 74, 75, 76, 77, 104] [51, 63] I I' ∧ gr_fj [59, 71, 72, 73, 74, 75, 76, 77, 104] [51, 63] J J' ∧ (∃ z : Int, r = some (.inl z) ∧ 0 ≤ z ∧ z ≤ 1 ∧ (I' 0 71 = 5 ∨ I' 0 73 ≤ I' 0 69) ∧ (I' 0 72 ≤ I' 0 69) ∧ (I' 0 71 = 0 ∨ (I' 0 72 < I' 0 73 ∧ I' 0 72 < I' 0 69)) ∧ (I' 0 71 = 3 → 2 ≤ I' 0 73 - I' 0 72 ∧ I' 0 73 - I' 0 72 ≤ 14) ∧ (I' 0 72 ≤ I' 0 73) ∧ (I' 0 69 = I 0 69) ∧ (I 0 73 ≤ I' 0 73) ∧ (I 0 72 ≤ I' 0 72) ∧ (I' 0 59 - I' 0 72 ≤ I 0 59 - I 0 72) ∧ (gr_LKs I I') ∧ (gs_Or z (0 ≤ (gs_sd β N9 I J 3 p9) ∧ gr_ATp β N9 (gs_sd β N9 I J 3 p9) I' J' ∧ gs_cs8 β N9 I J a1 p9 I') ((gs_sd β N9 I J 3 p9) < 0 ∧ I' 0 77 = -1 - (gs_sd β N9 I J 3 p9))))) := by
  have FI : gr_fr [59, 71, 72, 73, 74, 75, 76, 77, 104] [51, 63] I I := fun _ _ _ => rfl
  have FJ : gr_fj [59, 71, 72, 73, 74, 75, 76, 77, 104] [51, 63] J J := fun _ _ _ => rfl
  have hD : gv_D (gr_E ws0 tb 11 (yX13_side, cX13_side, 3, (some .boolean)) kX13_side) := gq_of oX13_side
  refine gr_ev (d := 11) (l := kX13_side) (Po := fun r h' => (∃ (I' : gr_I) (J' : gr_J), h' = gr_h I' J' ∧ gr_Inv I' ∧ gr_fr [59, 71, 72, 73, 74, 75, 76, 77, 104] [51, 63] I I' ∧ gr_fj [59, 71, 72, 73, 74, 75, 76, 77, 104] [51, 63] J J' ∧ (∃ z : Int, r = some (.inl z) ∧ 0 ≤ z ∧ z ≤ 1 ∧ (I' 0 71 = 5 ∨ I' 0 73 ≤ I' 0 69) ∧ (I' 0 72 ≤ I' 0 69) ∧ (I' 0 71 = 0 ∨ (I' 0 72 < I' 0 73 ∧ I' 0 72 < I' 0 69)) ∧ (I' 0 71 = 3 → 2 ≤ I' 0 73 - I' 0 72 ∧ I' 0 73 - I' 0 72 ≤ 14) ∧ (I' 0 72 ≤ I' 0 73) ∧ (I' 0 69 = I 0 69) ∧ (I 0 73 ≤ I' 0 73) ∧ (I 0 72 ≤ I' 0 72) ∧ (I' 0 59 - I' 0 72 ≤ I 0 59 - I 0 72) ∧ (gr_LKs I I') ∧ (gs_Or z (0 ≤ (gs_sd β N9 I J 3 p9) ∧ gr_ATp β N9 (gs_sd β N9 I J 3 p9) I' J' ∧ gs_cs8 β N9 I J a1 p9 I') ((gs_sd β N9 I J 3 p9) < 0 ∧ I' 0 77 = -1 - (gs_sd β N9 I J 3 p9)))))) htb rfl (Nat.le_of_ble_eq_true rfl) ?_
  have tAT := gr_ATp_l x7
  have f1 := (gr_b_0_71 hI)
  have f2 := (gr_b_0_72 hI)
  have f3 := (gr_b_0_73 hI)
  have f4 := (gr_b_0_69 hI)
  have f5 := (gr_b_0_6 hI)
  have f6 := (gr_b_0_59 hI)
  have KLK_I : gr_LKs I I := gr_LKs_rf
  have L2 : ∀ (n : Nat) (I7 : gr_I) (J8 : gr_J) (v2_9 : Int) (p_9 : Int), (4 - v2_9).toNat < n → gr_Inv I7 → gr_fr [59, 71, 72, 73, 74, 75, 76, 77, 104] [51, 63] I I7 → gr_fj [59, 71, 72, 73, 74, 75, 76, 77, 104] [51, 63] J J8 → gr_LKs I I7 → ((0 ≤ a1 ∧ a1 ≤ 3) ∧ (0 ≤ v2_9 ∧ v2_9 ≤ 3) ∧ (0 ≤ p_9) ∧ (I7 0 71 = 5 ∨ I7 0 73 ≤ I7 0 69) ∧ (I7 0 72 ≤ I7 0 69) ∧ (I7 0 71 = 0 ∨ (I7 0 72 < I7 0 73 ∧ I7 0 72 < I7 0 69)) ∧ (I7 0 71 = 3 → 2 ≤ I7 0 73 - I7 0 72 ∧ I7 0 73 - I7 0 72 ≤ 14) ∧ (I7 0 72 ≤ I7 0 73) ∧ (I7 0 69 = I 0 69) ∧ (I 0 73 ≤ I7 0 73) ∧ (I 0 72 ≤ I7 0 72) ∧ (0 ≤ I7 0 6) ∧ (I7 0 59 - I7 0 72 ≤ I 0 59 - I 0 72)) → (gr_ATp β N9 p_9 I7 J8) → ((gs_sd β N9 I J 3 p9) = gs_sd β N9 I J (Int.toNat (3 - v2_9)) p_9) → (gs_s2 β N9 I J a1 p9 I7 v2_9 p_9) → gv_X (gr_E ws0 tb 11 (yX13_side, cX13_side, 3, (some .boolean)) kX13_side) (gv_Q cX13_side (some .boolean) (gr_sh ++ ext) (fun r h' => (∃ (I' : gr_I) (J' : gr_J), h' = gr_h I' J' ∧ gr_Inv I' ∧ gr_fr [59, 71, 72, 73, 74, 75, 76, 77, 104] [51, 63] I I' ∧ gr_fj [59, 71, 72, 73, 74, 75, 76, 77, 104] [51, 63] J J' ∧ (∃ z : Int, r = some (.inl z) ∧ 0 ≤ z ∧ z ≤ 1 ∧ (I' 0 71 = 5 ∨ I' 0 73 ≤ I' 0 69) ∧ (I' 0 72 ≤ I' 0 69) ∧ (I' 0 71 = 0 ∨ (I' 0 72 < I' 0 73 ∧ I' 0 72 < I' 0 69)) ∧ (I' 0 71 = 3 → 2 ≤ I' 0 73 - I' 0 72 ∧ I' 0 73 - I' 0 72 ≤ 14) ∧ (I' 0 72 ≤ I' 0 73) ∧ (I' 0 69 = I 0 69) ∧ (I 0 73 ≤ I' 0 73) ∧ (I 0 72 ≤ I' 0 72) ∧ (I' 0 59 - I' 0 72 ≤ I 0 59 - I 0 72) ∧ (gr_LKs I I') ∧ (gs_Or z (0 ≤ (gs_sd β N9 I J 3 p9) ∧ gr_ATp β N9 (gs_sd β N9 I J 3 p9) I' J' ∧ gs_cs8 β N9 I J a1 p9 I') ((gs_sd β N9 I J 3 p9) < 0 ∧ I' 0 77 = -1 - (gs_sd β N9 I J 3 p9))))))) (2, [(0, .inr (.inr (some 0))), (1, .inl a1), (2, .inl v2_9)], [], gr_sh ++ ext, gr_h I7 J8) := by
    intro n
    induction n with
    | zero => intro I7 J8 v2_9 p_9 hn; exact gz_m 0 (by omega)
    | succ n ih2 =>
      intro I7 J8 v2_9 p_9 hn hI7 FI7 FJ8 KLK_I7 m_9 e1_9 e2_9 e3_9
      obtain ⟨ha1_9, hv2_9, e0_9, e4_9, e5_9, e6_9, e7_9, e8_9, e9_9, e10_9, e11_9, e12_9, e13_9⟩ := m_9
      have f10 := (gr_b_0_71 hI7)
      have f11 := (gr_b_0_72 hI7)
      have f12 := (gr_b_0_73 hI7)
      have f13 := (gr_b_0_69 hI7)
      have f14 := (gr_b_0_6 hI7)
      have f15 := (gr_b_0_59 hI7)
      have t16 := gr_ATp_l e1_9
      have L66 : ∀ (n : Nat) (I17 : gr_I) (J18 : gr_J) (v2_19 : Int) (p_19 : Int), (4 - v2_19).toNat < n → gr_Inv I17 → gr_fr [59, 71, 72, 73, 74, 75, 76, 77, 104] [51, 63] I I17 → gr_fj [59, 71, 72, 73, 74, 75, 76, 77, 104] [51, 63] J J18 → gr_LKs I I17 → ((0 ≤ a1 ∧ a1 ≤ 3) ∧ (0 ≤ v2_19 ∧ v2_19 ≤ 3) ∧ (0 ≤ p_19) ∧ (I17 0 71 = 5 ∨ I17 0 73 ≤ I17 0 69) ∧ (I17 0 72 ≤ I17 0 69) ∧ (I17 0 71 = 0 ∨ (I17 0 72 < I17 0 73 ∧ I17 0 72 < I17 0 69)) ∧ (I17 0 71 = 3 → 2 ≤ I17 0 73 - I17 0 72 ∧ I17 0 73 - I17 0 72 ≤ 14) ∧ (I17 0 72 ≤ I17 0 73) ∧ (I17 0 69 = I 0 69) ∧ (I 0 73 ≤ I17 0 73) ∧ (I 0 72 ≤ I17 0 72) ∧ (0 ≤ I17 0 6) ∧ (I17 0 59 - I17 0 72 ≤ I 0 59 - I 0 72)) → (gr_ATp β N9 p_19 I17 J18) → ((gs_sd β N9 I J 3 p9) = p_19) → (gs_s3 β N9 I J a1 p9 I17 v2_19) → gv_X (gr_E ws0 tb 11 (yX13_side, cX13_side, 3, (some .boolean)) kX13_side) (gv_Q cX13_side (some .boolean) (gr_sh ++ ext) (fun r h' => (∃ (I' : gr_I) (J' : gr_J), h' = gr_h I' J' ∧ gr_Inv I' ∧ gr_fr [59, 71, 72, 73, 74, 75, 76, 77, 104] [51, 63] I I' ∧ gr_fj [59, 71, 72, 73, 74, 75, 76, 77, 104] [51, 63] J J' ∧ (∃ z : Int, r = some (.inl z) ∧ 0 ≤ z ∧ z ≤ 1 ∧ (I' 0 71 = 5 ∨ I' 0 73 ≤ I' 0 69) ∧ (I' 0 72 ≤ I' 0 69) ∧ (I' 0 71 = 0 ∨ (I' 0 72 < I' 0 73 ∧ I' 0 72 < I' 0 69)) ∧ (I' 0 71 = 3 → 2 ≤ I' 0 73 - I' 0 72 ∧ I' 0 73 - I' 0 72 ≤ 14) ∧ (I' 0 72 ≤ I' 0 73) ∧ (I' 0 69 = I 0 69) ∧ (I 0 73 ≤ I' 0 73) ∧ (I 0 72 ≤ I' 0 72) ∧ (I' 0 59 - I' 0 72 ≤ I 0 59 - I 0 72) ∧ (gr_LKs I I') ∧ (gs_Or z (0 ≤ (gs_sd β N9 I J 3 p9) ∧ gr_ATp β N9 (gs_sd β N9 I J 3 p9) I' J' ∧ gs_cs8 β N9 I J a1 p9 I') ((gs_sd β N9 I J 3 p9) < 0 ∧ I' 0 77 = -1 - (gs_sd β N9 I J 3 p9))))))) (66, [(0, .inr (.inr (some 0))), (1, .inl a1), (2, .inl v2_19)], [], gr_sh ++ ext, gr_h I17 J18) := by
        intro n
        induction n with
        | zero => intro I17 J18 v2_19 p_19 hn; exact gz_m 1 (by omega)
        | succ n ih66 =>
          intro I17 J18 v2_19 p_19 hn hI17 FI17 FJ18 KLK_I17 m_19 e1_19 e2_19 e3_19
          clear ha1_9 hv2_9 e0_9 e4_9 e5_9 e6_9 e7_9 e8_9 e9_9 e10_9 e11_9 e12_9 e13_9 f10 f11 f12 f13 f14 f15 t16
          obtain ⟨ha1_19, hv2_19, e0_19, e4_19, e5_19, e6_19, e7_19, e8_19, e9_19, e10_19, e11_19, e12_19, e13_19⟩ := m_19
          have f20 := (gr_b_0_71 hI17)
          have f21 := (gr_b_0_72 hI17)
          have f22 := (gr_b_0_73 hI17)
          have f23 := (gr_b_0_69 hI17)
          have f24 := (gr_b_0_6 hI17)
          have f25 := (gr_b_0_59 hI17)
          have t26 := gr_ATp_l e1_19
          refine gv_run 2 true hD (pc' := 68) (lv' := [(0, .inr (.inr (some 0))), (1, .inl a1), (2, .inl v2_19)]) (st' := [.inl 3, .inl v2_19]) (h' := gr_h I17 J18) (C := ((True ∧ True) ∧ True)) rfl ⟨⟨trivial, trivial⟩, trivial⟩ ?_
          refine gv_icmp_ge (t := 88) hD rfl rfl ⟨⟨by exact gz_m 2 (by omega), by exact gz_m 3 (by omega)⟩, ⟨by exact gz_m 4 (by omega), by exact gz_m 5 (by omega)⟩⟩ (fun c27 => ?_) (fun c27 => ?_)
          · refine gv_run 1 true hD (pc' := 89) (lv' := [(0, .inr (.inr (some 0))), (1, .inl a1), (2, .inl v2_19)]) (st' := [.inl 1]) (h' := gr_h I17 J18) (C := (True ∧ True)) rfl ⟨trivial, trivial⟩ ?_
            have b28 : (I17 0 71 = 5 ∨ I17 0 73 ≤ I17 0 69) ∧ (I17 0 72 ≤ I17 0 69) ∧ (I17 0 71 = 0 ∨ (I17 0 72 < I17 0 73 ∧ I17 0 72 < I17 0 69)) ∧ (I17 0 71 = 3 → 2 ≤ I17 0 73 - I17 0 72 ∧ I17 0 73 - I17 0 72 ≤ 14) ∧ (I17 0 72 ≤ I17 0 73) ∧ (I17 0 69 = I 0 69) ∧ (I 0 73 ≤ I17 0 73) ∧ (I 0 72 ≤ I17 0 72) ∧ (I17 0 59 - I17 0 72 ≤ I 0 59 - I 0 72) := by exact gz_m 6 (by omega)
            exact gv_zret hD rfl (by exact gz_m 7 (by omega)) ⟨I17, J18, rfl, hI17, FI17, FJ18, ⟨_, rfl, by exact gz_m 8 (by omega), by exact gz_m 9 (by omega), b28.1, b28.2.1, b28.2.2.1, b28.2.2.2.1, b28.2.2.2.2.1, b28.2.2.2.2.2.1, b28.2.2.2.2.2.2.1, b28.2.2.2.2.2.2.2.1, b28.2.2.2.2.2.2.2.2, KLK_I17, (Or.inl ⟨by exact gz_m 10 (by omega), by rw [e2_19]; exact ⟨by exact gz_m 11 (by omega), e1_19, gs_cs_mk e3_19 (by exact gz_m 12 (by omega))⟩⟩)⟩⟩
          · refine gv_run 7 true hD (pc' := 84) (lv' := [(2, .inl (v2_19 + 1)), (0, .inr (.inr (some 0))), (1, .inl a1)]) (st' := [.inl 2147483647, .inl (a1 + v2_19), .inr (.inr (some 63))]) (h' := gr_h I17 J18) (C := (((((((True ∧ True) ∧ True) ∧ True) ∧ True) ∧ True) ∧ True) ∧ True)) rfl ⟨⟨⟨⟨⟨⟨⟨trivial, trivial⟩, trivial⟩, trivial⟩, trivial⟩, trivial⟩, trivial⟩, trivial⟩ ?_
            refine gv_run 1 true hD (pc' := 85) (lv' := [(2, .inl (v2_19 + 1)), (0, .inr (.inr (some 0))), (1, .inl a1)]) (st' := []) (h' := gz_up (gr_h I17 J18) 63 (Int.toNat ((a1 + v2_19))) (.inl 2147483647)) (C := (True ∧ (0 ≤ (a1 + v2_19) ∧ (a1 + v2_19) < ((6 : Nat) : Int)))) rfl ⟨trivial, ⟨by exact gz_m 13 (by omega), by exact gz_m 14 (by omega)⟩⟩ ?_
            refine gr_st hI17 FI17 rfl rfl ⟨⟨by show (-2147483648) ≤ _; exact gz_m 15 (by omega), by show _ ≤ 2147483647; exact gz_m 16 (by omega)⟩, by show (2147483647 = -2147483648 ∨ 2147483647 = 2147483647 ∨ -16 ≤ 2147483647 ∧ 2147483647 ≤ 32015); exact gz_m 17 (by omega)⟩ (fun I29 hI29 FI29 q30 p30 => ?_)
            have t31 := p30 0 71 (fun q => absurd q.1 (by decide))
            have t32 := p30 0 72 (fun q => absurd q.1 (by decide))
            have t33 := p30 0 73 (fun q => absurd q.1 (by decide))
            have t34 := p30 0 69 (fun q => absurd q.1 (by decide))
            have t35 := p30 0 6 (fun q => absurd q.1 (by decide))
            have t36 := p30 0 59 (fun q => absurd q.1 (by decide))
            have f37 := (gr_b_0_71 hI29)
            have f38 := (gr_b_0_72 hI29)
            have f39 := (gr_b_0_73 hI29)
            have f40 := (gr_b_0_69 hI29)
            have f41 := (gr_b_0_6 hI29)
            have f42 := (gr_b_0_59 hI29)
            have KLK_I29 := gr_LKs_fr KLK_I17 (fun k => p30 51 k (fun q => absurd q.1 (by decide))) (p30 0 59 (fun q => absurd q.1 (by decide)))
            have A43 := gr_ATp_sr e1_19 p30 rfl
            refine gv_run 1 true hD (pc' := 66) (lv' := [(2, .inl (v2_19 + 1)), (0, .inr (.inr (some 0))), (1, .inl a1)]) (st' := []) (h' := gr_h I29 J18) (C := (True ∧ True)) rfl ⟨trivial, trivial⟩ ?_
            refine gv_pick [1, 2, 0] rfl ?_
            exact ih66 I29 J18 (v2_19 + 1) p_19 (by exact gz_m 18 (by omega)) hI29 FI29 FJ18 KLK_I29 (by exact gz_m 19 (by omega)) A43 e2_19 (gs_s3_s e3_19 (by exact gz_m 20 (by omega)) ⟨by exact gz_m 21 (by omega), by exact gz_m 22 (by omega)⟩ rfl p30 q30)
      have f44 := (gr_b_0_71 hI7)
      refine gv_run 3 true hD (pc' := 7) (lv' := [(0, .inr (.inr (some 0))), (1, .inl a1), (2, .inl v2_9)]) (st' := [.inl 3, .inl (I7 0 71)]) (h' := gr_h I7 J8) (C := (((True ∧ True) ∧ True) ∧ True)) rfl ⟨⟨⟨trivial, trivial⟩, trivial⟩, trivial⟩ ?_
      refine gv_icmp_eq (t := 27) hD rfl rfl ⟨⟨by exact gz_m 23 (by omega), by exact gz_m 24 (by omega)⟩, ⟨by exact gz_m 25 (by omega), by exact gz_m 26 (by omega)⟩⟩ (fun c45 => ?_) (fun c45 => ?_)
      · have t46 := gr_ATp_k e1_9 (c := 3) ⟨by exact gz_m 27 (by omega), by exact gz_m 28 (by omega)⟩
        refine gv_run 2 true hD (pc' := 29) (lv' := [(0, .inr (.inr (some 0))), (1, .inl a1), (2, .inl v2_9)]) (st' := [.inl 3, .inl v2_9]) (h' := gr_h I7 J8) (C := ((True ∧ True) ∧ True)) rfl ⟨⟨trivial, trivial⟩, trivial⟩ ?_
        refine gv_icmp_ne (t := 38) hD rfl rfl ⟨⟨by exact gz_m 29 (by omega), by exact gz_m 30 (by omega)⟩, ⟨by exact gz_m 31 (by omega), by exact gz_m 32 (by omega)⟩⟩ (fun c47 => ?_) (fun c47 => ?_)
        · refine gv_run 2 true hD (pc' := 40) (lv' := [(0, .inr (.inr (some 0))), (1, .inl a1), (2, .inl v2_9)]) (st' := [.inl 1, .inr (.inr (some 0))]) (h' := gr_h I7 J8) (C := ((True ∧ True) ∧ True)) rfl ⟨⟨trivial, trivial⟩, trivial⟩ ?_
          obtain ⟨r48, h48, E48, P48⟩ := r_context_p (ws0 := ws0) (tb := tb) hws htb ext β N9 p_9 I7 J8 hI7 1 ⟨by exact gz_m 33 (by omega), by exact gz_m 34 (by omega)⟩ (by exact gz_m 35 (by omega)) (by exact gz_m 36 (by omega)) (by exact gz_m 37 (by omega)) (by exact gz_m 38 (by omega)) (by exact gz_m 39 (by omega)) (by exact gz_m 40 (by omega)) (by exact gz_m 41 (by omega)) e1_9 (by exact gz_m 42 (by omega))
          obtain ⟨I49, J50, rfl, hI49, g48, k48, ⟨z48, rfl, q48⟩⟩ := P48
          have FI49 := gr_frt FI7 g48 rfl rfl
          have FJ50 := gr_fjt FJ8 k48 rfl rfl
          have t51 := g48 0 69 rfl
          have t52 := g48 0 6 rfl
          have f53 := (gr_b_0_71 hI49)
          have f54 := (gr_b_0_72 hI49)
          have f55 := (gr_b_0_73 hI49)
          have f56 := (gr_b_0_69 hI49)
          have f57 := (gr_b_0_6 hI49)
          have f58 := (gr_b_0_59 hI49)
          have l48 := q48.2.2.2.2.2.2.2.2.2.2.2.2.1
          have KLK_I49 := gr_LKs_tr KLK_I7 l48
          refine gv_callV hD rfl (As := [.inl 1]) (st := []) rfl (by decide) rfl rfl (gr_lV hws rfl) (Nat.le_of_ble_eq_true rfl) (gz_Ev_mono (d := 11) (by decide) E48) ?_
          show gv_X _ _ (43, [(0, .inr (.inr (some 0))), (1, .inl a1), (2, .inl v2_9)], [.inl z48], gr_sh ++ ext, gr_h I49 J50)
          refine gv_if_ne (t := 48) hD rfl rfl ⟨by exact gz_m 43 (by omega), by exact gz_m 44 (by omega)⟩ (fun c59 => ?_) (fun c59 => ?_)
          · have Q60 := q48.2.2.2.2.2.2.2.2.2.2.2.2.2
            rw [gs_ctx_eq (FI7 0 6 rfl) (fun k => (FI7 15 k rfl)) (fun k => (FJ8 22 k rfl))] at Q60
            obtain ⟨u60, A60, U60⟩ := gs_or1 Q60 (by exact gz_m 45 (by omega))
            have t61 := gr_ATp_l A60
            have U60 := gs_cx_eq (FI7 0 6 rfl) (fun k => (FI7 15 k rfl)) (fun k => (FJ8 22 k rfl)) (fun k => (FI7 26 k rfl)) U60
            refine gv_run 7 true hD (pc' := 59) (lv' := [(2, .inl (v2_9 + 1)), (0, .inr (.inr (some 0))), (1, .inl a1)]) (st' := [.inr (.inr (some 0)), .inl (a1 + v2_9), .inr (.inr (some 63))]) (h' := gr_h I49 J50) (C := (((((((True ∧ True) ∧ True) ∧ True) ∧ True) ∧ True) ∧ True) ∧ True)) rfl ⟨⟨⟨⟨⟨⟨⟨trivial, trivial⟩, trivial⟩, trivial⟩, trivial⟩, trivial⟩, trivial⟩, trivial⟩ ?_
            have f62 := (show ((-2147483648) ≤ I49 0 104 ∧ I49 0 104 ≤ 2147483647) ∧ ((I49 0 104) = -2147483648 ∨ (I49 0 104) = 2147483647 ∨ -16 ≤ (I49 0 104) ∧ (I49 0 104) ≤ 32015) from hI49 0 104)
            refine gv_run 2 true hD (pc' := 63) (lv' := [(2, .inl (v2_9 + 1)), (0, .inr (.inr (some 0))), (1, .inl a1)]) (st' := []) (h' := gz_up (gr_h I49 J50) 63 (Int.toNat ((a1 + v2_9))) (.inl (I49 0 104))) (C := ((True ∧ True) ∧ (0 ≤ (a1 + v2_9) ∧ (a1 + v2_9) < ((6 : Nat) : Int)))) rfl ⟨⟨trivial, trivial⟩, ⟨by exact gz_m 46 (by omega), by exact gz_m 47 (by omega)⟩⟩ ?_
            refine gr_st hI49 FI49 rfl rfl ⟨⟨by show (-2147483648) ≤ _; exact gz_m 48 (by omega), by show _ ≤ 2147483647; exact gz_m 49 (by omega)⟩, by show ((I49 0 104) = -2147483648 ∨ (I49 0 104) = 2147483647 ∨ -16 ≤ (I49 0 104) ∧ (I49 0 104) ≤ 32015); exact gz_m 50 (by omega)⟩ (fun I63 hI63 FI63 q64 p64 => ?_)
            have t65 := p64 0 71 (fun q => absurd q.1 (by decide))
            have t66 := p64 0 72 (fun q => absurd q.1 (by decide))
            have t67 := p64 0 73 (fun q => absurd q.1 (by decide))
            have t68 := p64 0 69 (fun q => absurd q.1 (by decide))
            have t69 := p64 0 6 (fun q => absurd q.1 (by decide))
            have t70 := p64 0 59 (fun q => absurd q.1 (by decide))
            have f71 := (gr_b_0_71 hI63)
            have f72 := (gr_b_0_72 hI63)
            have f73 := (gr_b_0_73 hI63)
            have f74 := (gr_b_0_69 hI63)
            have f75 := (gr_b_0_6 hI63)
            have f76 := (gr_b_0_59 hI63)
            have KLK_I63 := gr_LKs_fr KLK_I49 (fun k => p64 51 k (fun q => absurd q.1 (by decide))) (p64 0 59 (fun q => absurd q.1 (by decide)))
            have A77 := gr_ATp_sr A60 p64 rfl
            refine gv_run 1 true hD (pc' := 2) (lv' := [(2, .inl (v2_9 + 1)), (0, .inr (.inr (some 0))), (1, .inl a1)]) (st' := []) (h' := gr_h I63 J50) (C := (True ∧ True)) rfl ⟨trivial, trivial⟩ ?_
            refine gv_pick [1, 2, 0] rfl ?_
            exact ih2 I63 J50 (v2_9 + 1) (gs_ctx β N9 I J 1 p_9) (by exact gz_m 51 (by omega)) hI63 FI63 FJ50 KLK_I63 (by exact gz_m 52 (by omega)) A77 (e2_9.trans (gs_sd_s (by exact gz_m 53 (by omega)) (by exact gz_m 54 (by omega)) (by exact gz_m 55 (by omega)))) (gs_s2_s e3_9 ⟨by exact gz_m 56 (by omega), by exact gz_m 57 (by omega)⟩ (by exact gz_m 58 (by omega)) (by exact gz_m 59 (by omega)) l48 (fun j => g48 63 j rfl) U60 rfl rfl p64 q64 (gs_ctx_x (by exact gz_m 60 (by omega)) (by exact gz_m 61 (by omega))))
          · have Q78 := q48.2.2.2.2.2.2.2.2.2.2.2.2.2
            rw [gs_ctx_eq (FI7 0 6 rfl) (fun k => (FI7 15 k rfl)) (fun k => (FJ8 22 k rfl))] at Q78
            obtain ⟨u78, u78_⟩ := gs_or0 Q78 (by exact gz_m 62 (by omega))
            refine gv_run 1 true hD (pc' := 47) (lv' := [(0, .inr (.inr (some 0))), (1, .inl a1), (2, .inl v2_9)]) (st' := [.inl 0]) (h' := gr_h I49 J50) (C := (True ∧ True)) rfl ⟨trivial, trivial⟩ ?_
            have b79 : (I49 0 71 = 5 ∨ I49 0 73 ≤ I49 0 69) ∧ (I49 0 72 ≤ I49 0 69) ∧ (I49 0 71 = 0 ∨ (I49 0 72 < I49 0 73 ∧ I49 0 72 < I49 0 69)) ∧ (I49 0 71 = 3 → 2 ≤ I49 0 73 - I49 0 72 ∧ I49 0 73 - I49 0 72 ≤ 14) ∧ (I49 0 72 ≤ I49 0 73) ∧ (I49 0 69 = I 0 69) ∧ (I 0 73 ≤ I49 0 73) ∧ (I 0 72 ≤ I49 0 72) ∧ (I49 0 59 - I49 0 72 ≤ I 0 59 - I 0 72) := by exact gz_m 63 (by omega)
            exact gv_zret hD rfl (by exact gz_m 64 (by omega)) ⟨I49, J50, rfl, hI49, FI49, FJ50, ⟨_, rfl, by exact gz_m 65 (by omega), by exact gz_m 66 (by omega), b79.1, b79.2.1, b79.2.2.1, b79.2.2.2.1, b79.2.2.2.2.1, b79.2.2.2.2.2.1, b79.2.2.2.2.2.2.1, b79.2.2.2.2.2.2.2.1, b79.2.2.2.2.2.2.2.2, KLK_I49, (Or.inr ⟨by exact gz_m 67 (by omega), by rw [e2_9, gs_sd_c (by exact gz_m 68 (by omega)) (by exact gz_m 69 (by omega)) (by exact gz_m 70 (by omega))]; exact ⟨by exact gz_m 71 (by omega), by exact gz_m 72 (by omega)⟩⟩)⟩⟩
        · refine gv_run 2 true hD (pc' := 34) (lv' := [(0, .inr (.inr (some 0))), (1, .inl a1), (2, .inl v2_9)]) (st' := [.inl 5, .inr (.inr (some 0))]) (h' := gr_h I7 J8) (C := ((True ∧ True) ∧ True)) rfl ⟨⟨trivial, trivial⟩, trivial⟩ ?_
          obtain ⟨r80, h80, E80, P80⟩ := r_no__p (ws0 := ws0) (tb := tb) hws htb ext β N9 p_9 I7 J8 hI7 5 ⟨by exact gz_m 73 (by omega), by exact gz_m 74 (by omega)⟩ e1_9 (by exact gz_m 75 (by omega))
          obtain ⟨I81, J82, rfl, hI81, g80, k80, ⟨z80, rfl, q80⟩⟩ := P80
          have FI81 := gr_frt FI7 g80 rfl rfl
          have FJ82 := gr_fjt FJ8 k80 rfl rfl
          have t83 := g80 0 71 rfl
          have t84 := g80 0 72 rfl
          have t85 := g80 0 73 rfl
          have t86 := g80 0 69 rfl
          have t87 := g80 0 6 rfl
          have t88 := g80 0 59 rfl
          have f89 := (gr_b_0_71 hI81)
          have f90 := (gr_b_0_72 hI81)
          have f91 := (gr_b_0_73 hI81)
          have f92 := (gr_b_0_69 hI81)
          have f93 := (gr_b_0_6 hI81)
          have f94 := (gr_b_0_59 hI81)
          have KLK_I81 := gr_LKs_fr KLK_I7 (fun k => g80 51 k rfl) (g80 0 59 rfl)
          have A95 := gr_ATp_F e1_9 g80 k80 rfl
          have t96 := gr_ATp_l A95
          refine gv_callV hD rfl (As := [.inl 5]) (st := []) rfl (by decide) rfl rfl (gr_lV hws rfl) (Nat.le_of_ble_eq_true rfl) (gz_Ev_mono (d := 2) (by decide) E80) ?_
          show gv_X _ _ (37, [(0, .inr (.inr (some 0))), (1, .inl a1), (2, .inl v2_9)], [.inl z80], gr_sh ++ ext, gr_h I81 J82)
          have b97 : (I81 0 71 = 5 ∨ I81 0 73 ≤ I81 0 69) ∧ (I81 0 72 ≤ I81 0 69) ∧ (I81 0 71 = 0 ∨ (I81 0 72 < I81 0 73 ∧ I81 0 72 < I81 0 69)) ∧ (I81 0 71 = 3 → 2 ≤ I81 0 73 - I81 0 72 ∧ I81 0 73 - I81 0 72 ≤ 14) ∧ (I81 0 72 ≤ I81 0 73) ∧ (I81 0 69 = I 0 69) ∧ (I 0 73 ≤ I81 0 73) ∧ (I 0 72 ≤ I81 0 72) ∧ (I81 0 59 - I81 0 72 ≤ I 0 59 - I 0 72) := by exact gz_m 76 (by omega)
          exact gv_zret hD rfl (by exact gz_m 77 (by omega)) ⟨I81, J82, rfl, hI81, FI81, FJ82, ⟨_, rfl, by exact gz_m 78 (by omega), by exact gz_m 79 (by omega), b97.1, b97.2.1, b97.2.2.1, b97.2.2.2.1, b97.2.2.2.2.1, b97.2.2.2.2.2.1, b97.2.2.2.2.2.2.1, b97.2.2.2.2.2.2.2.1, b97.2.2.2.2.2.2.2.2, KLK_I81, (Or.inr ⟨by exact gz_m 80 (by omega), by rw [e2_9, gs_sd_x (by exact gz_m 81 (by omega)) (by exact gz_m 82 (by omega))]; exact ⟨by exact gz_m 83 (by omega), by exact gz_m 84 (by omega)⟩⟩)⟩⟩
      · have t98 := gr_ATp_k e1_9 (c := 3) ⟨by exact gz_m 85 (by omega), by exact gz_m 86 (by omega)⟩
        have f99 := (gr_b_0_71 hI7)
        refine gv_run 3 true hD (pc' := 15) (lv' := [(0, .inr (.inr (some 0))), (1, .inl a1), (2, .inl v2_9)]) (st' := [.inl 1, .inl (I7 0 71)]) (h' := gr_h I7 J8) (C := (((True ∧ True) ∧ True) ∧ True)) rfl ⟨⟨⟨trivial, trivial⟩, trivial⟩, trivial⟩ ?_
        refine gv_icmp_eq (t := 27) hD rfl rfl ⟨⟨by exact gz_m 87 (by omega), by exact gz_m 88 (by omega)⟩, ⟨by exact gz_m 89 (by omega), by exact gz_m 90 (by omega)⟩⟩ (fun c100 => ?_) (fun c100 => ?_)
        · have t101 := gr_ATp_k e1_9 (c := 1) ⟨by exact gz_m 91 (by omega), by exact gz_m 92 (by omega)⟩
          refine gv_run 2 true hD (pc' := 29) (lv' := [(0, .inr (.inr (some 0))), (1, .inl a1), (2, .inl v2_9)]) (st' := [.inl 3, .inl v2_9]) (h' := gr_h I7 J8) (C := ((True ∧ True) ∧ True)) rfl ⟨⟨trivial, trivial⟩, trivial⟩ ?_
          refine gv_icmp_ne (t := 38) hD rfl rfl ⟨⟨by exact gz_m 93 (by omega), by exact gz_m 94 (by omega)⟩, ⟨by exact gz_m 95 (by omega), by exact gz_m 96 (by omega)⟩⟩ (fun c102 => ?_) (fun c102 => ?_)
          · refine gv_run 2 true hD (pc' := 40) (lv' := [(0, .inr (.inr (some 0))), (1, .inl a1), (2, .inl v2_9)]) (st' := [.inl 1, .inr (.inr (some 0))]) (h' := gr_h I7 J8) (C := ((True ∧ True) ∧ True)) rfl ⟨⟨trivial, trivial⟩, trivial⟩ ?_
            obtain ⟨r103, h103, E103, P103⟩ := r_context_p (ws0 := ws0) (tb := tb) hws htb ext β N9 p_9 I7 J8 hI7 1 ⟨by exact gz_m 97 (by omega), by exact gz_m 98 (by omega)⟩ (by exact gz_m 99 (by omega)) (by exact gz_m 100 (by omega)) (by exact gz_m 101 (by omega)) (by exact gz_m 102 (by omega)) (by exact gz_m 103 (by omega)) (by exact gz_m 104 (by omega)) (by exact gz_m 105 (by omega)) e1_9 (by exact gz_m 106 (by omega))
            obtain ⟨I104, J105, rfl, hI104, g103, k103, ⟨z103, rfl, q103⟩⟩ := P103
            have FI104 := gr_frt FI7 g103 rfl rfl
            have FJ105 := gr_fjt FJ8 k103 rfl rfl
            have t106 := g103 0 69 rfl
            have t107 := g103 0 6 rfl
            have f108 := (gr_b_0_71 hI104)
            have f109 := (gr_b_0_72 hI104)
            have f110 := (gr_b_0_73 hI104)
            have f111 := (gr_b_0_69 hI104)
            have f112 := (gr_b_0_6 hI104)
            have f113 := (gr_b_0_59 hI104)
            have l103 := q103.2.2.2.2.2.2.2.2.2.2.2.2.1
            have KLK_I104 := gr_LKs_tr KLK_I7 l103
            refine gv_callV hD rfl (As := [.inl 1]) (st := []) rfl (by decide) rfl rfl (gr_lV hws rfl) (Nat.le_of_ble_eq_true rfl) (gz_Ev_mono (d := 11) (by decide) E103) ?_
            show gv_X _ _ (43, [(0, .inr (.inr (some 0))), (1, .inl a1), (2, .inl v2_9)], [.inl z103], gr_sh ++ ext, gr_h I104 J105)
            refine gv_if_ne (t := 48) hD rfl rfl ⟨by exact gz_m 107 (by omega), by exact gz_m 108 (by omega)⟩ (fun c114 => ?_) (fun c114 => ?_)
            · have Q115 := q103.2.2.2.2.2.2.2.2.2.2.2.2.2
              rw [gs_ctx_eq (FI7 0 6 rfl) (fun k => (FI7 15 k rfl)) (fun k => (FJ8 22 k rfl))] at Q115
              obtain ⟨u115, A115, U115⟩ := gs_or1 Q115 (by exact gz_m 109 (by omega))
              have t116 := gr_ATp_l A115
              have U115 := gs_cx_eq (FI7 0 6 rfl) (fun k => (FI7 15 k rfl)) (fun k => (FJ8 22 k rfl)) (fun k => (FI7 26 k rfl)) U115
              refine gv_run 7 true hD (pc' := 59) (lv' := [(2, .inl (v2_9 + 1)), (0, .inr (.inr (some 0))), (1, .inl a1)]) (st' := [.inr (.inr (some 0)), .inl (a1 + v2_9), .inr (.inr (some 63))]) (h' := gr_h I104 J105) (C := (((((((True ∧ True) ∧ True) ∧ True) ∧ True) ∧ True) ∧ True) ∧ True)) rfl ⟨⟨⟨⟨⟨⟨⟨trivial, trivial⟩, trivial⟩, trivial⟩, trivial⟩, trivial⟩, trivial⟩, trivial⟩ ?_
              have f117 := (show ((-2147483648) ≤ I104 0 104 ∧ I104 0 104 ≤ 2147483647) ∧ ((I104 0 104) = -2147483648 ∨ (I104 0 104) = 2147483647 ∨ -16 ≤ (I104 0 104) ∧ (I104 0 104) ≤ 32015) from hI104 0 104)
              refine gv_run 2 true hD (pc' := 63) (lv' := [(2, .inl (v2_9 + 1)), (0, .inr (.inr (some 0))), (1, .inl a1)]) (st' := []) (h' := gz_up (gr_h I104 J105) 63 (Int.toNat ((a1 + v2_9))) (.inl (I104 0 104))) (C := ((True ∧ True) ∧ (0 ≤ (a1 + v2_9) ∧ (a1 + v2_9) < ((6 : Nat) : Int)))) rfl ⟨⟨trivial, trivial⟩, ⟨by exact gz_m 110 (by omega), by exact gz_m 111 (by omega)⟩⟩ ?_
              refine gr_st hI104 FI104 rfl rfl ⟨⟨by show (-2147483648) ≤ _; exact gz_m 112 (by omega), by show _ ≤ 2147483647; exact gz_m 113 (by omega)⟩, by show ((I104 0 104) = -2147483648 ∨ (I104 0 104) = 2147483647 ∨ -16 ≤ (I104 0 104) ∧ (I104 0 104) ≤ 32015); exact gz_m 114 (by omega)⟩ (fun I118 hI118 FI118 q119 p119 => ?_)
              have t120 := p119 0 71 (fun q => absurd q.1 (by decide))
              have t121 := p119 0 72 (fun q => absurd q.1 (by decide))
              have t122 := p119 0 73 (fun q => absurd q.1 (by decide))
              have t123 := p119 0 69 (fun q => absurd q.1 (by decide))
              have t124 := p119 0 6 (fun q => absurd q.1 (by decide))
              have t125 := p119 0 59 (fun q => absurd q.1 (by decide))
              have f126 := (gr_b_0_71 hI118)
              have f127 := (gr_b_0_72 hI118)
              have f128 := (gr_b_0_73 hI118)
              have f129 := (gr_b_0_69 hI118)
              have f130 := (gr_b_0_6 hI118)
              have f131 := (gr_b_0_59 hI118)
              have KLK_I118 := gr_LKs_fr KLK_I104 (fun k => p119 51 k (fun q => absurd q.1 (by decide))) (p119 0 59 (fun q => absurd q.1 (by decide)))
              have A132 := gr_ATp_sr A115 p119 rfl
              refine gv_run 1 true hD (pc' := 2) (lv' := [(2, .inl (v2_9 + 1)), (0, .inr (.inr (some 0))), (1, .inl a1)]) (st' := []) (h' := gr_h I118 J105) (C := (True ∧ True)) rfl ⟨trivial, trivial⟩ ?_
              refine gv_pick [1, 2, 0] rfl ?_
              exact ih2 I118 J105 (v2_9 + 1) (gs_ctx β N9 I J 1 p_9) (by exact gz_m 115 (by omega)) hI118 FI118 FJ105 KLK_I118 (by exact gz_m 116 (by omega)) A132 (e2_9.trans (gs_sd_s (by exact gz_m 117 (by omega)) (by exact gz_m 118 (by omega)) (by exact gz_m 119 (by omega)))) (gs_s2_s e3_9 ⟨by exact gz_m 120 (by omega), by exact gz_m 121 (by omega)⟩ (by exact gz_m 122 (by omega)) (by exact gz_m 123 (by omega)) l103 (fun j => g103 63 j rfl) U115 rfl rfl p119 q119 (gs_ctx_x (by exact gz_m 124 (by omega)) (by exact gz_m 125 (by omega))))
            · have Q133 := q103.2.2.2.2.2.2.2.2.2.2.2.2.2
              rw [gs_ctx_eq (FI7 0 6 rfl) (fun k => (FI7 15 k rfl)) (fun k => (FJ8 22 k rfl))] at Q133
              obtain ⟨u133, u133_⟩ := gs_or0 Q133 (by exact gz_m 126 (by omega))
              refine gv_run 1 true hD (pc' := 47) (lv' := [(0, .inr (.inr (some 0))), (1, .inl a1), (2, .inl v2_9)]) (st' := [.inl 0]) (h' := gr_h I104 J105) (C := (True ∧ True)) rfl ⟨trivial, trivial⟩ ?_
              have b134 : (I104 0 71 = 5 ∨ I104 0 73 ≤ I104 0 69) ∧ (I104 0 72 ≤ I104 0 69) ∧ (I104 0 71 = 0 ∨ (I104 0 72 < I104 0 73 ∧ I104 0 72 < I104 0 69)) ∧ (I104 0 71 = 3 → 2 ≤ I104 0 73 - I104 0 72 ∧ I104 0 73 - I104 0 72 ≤ 14) ∧ (I104 0 72 ≤ I104 0 73) ∧ (I104 0 69 = I 0 69) ∧ (I 0 73 ≤ I104 0 73) ∧ (I 0 72 ≤ I104 0 72) ∧ (I104 0 59 - I104 0 72 ≤ I 0 59 - I 0 72) := by exact gz_m 127 (by omega)
              exact gv_zret hD rfl (by exact gz_m 128 (by omega)) ⟨I104, J105, rfl, hI104, FI104, FJ105, ⟨_, rfl, by exact gz_m 129 (by omega), by exact gz_m 130 (by omega), b134.1, b134.2.1, b134.2.2.1, b134.2.2.2.1, b134.2.2.2.2.1, b134.2.2.2.2.2.1, b134.2.2.2.2.2.2.1, b134.2.2.2.2.2.2.2.1, b134.2.2.2.2.2.2.2.2, KLK_I104, (Or.inr ⟨by exact gz_m 131 (by omega), by rw [e2_9, gs_sd_c (by exact gz_m 132 (by omega)) (by exact gz_m 133 (by omega)) (by exact gz_m 134 (by omega))]; exact ⟨by exact gz_m 135 (by omega), by exact gz_m 136 (by omega)⟩⟩)⟩⟩
          · refine gv_run 2 true hD (pc' := 34) (lv' := [(0, .inr (.inr (some 0))), (1, .inl a1), (2, .inl v2_9)]) (st' := [.inl 5, .inr (.inr (some 0))]) (h' := gr_h I7 J8) (C := ((True ∧ True) ∧ True)) rfl ⟨⟨trivial, trivial⟩, trivial⟩ ?_
            obtain ⟨r135, h135, E135, P135⟩ := r_no__p (ws0 := ws0) (tb := tb) hws htb ext β N9 p_9 I7 J8 hI7 5 ⟨by exact gz_m 137 (by omega), by exact gz_m 138 (by omega)⟩ e1_9 (by exact gz_m 139 (by omega))
            obtain ⟨I136, J137, rfl, hI136, g135, k135, ⟨z135, rfl, q135⟩⟩ := P135
            have FI136 := gr_frt FI7 g135 rfl rfl
            have FJ137 := gr_fjt FJ8 k135 rfl rfl
            have t138 := g135 0 71 rfl
            have t139 := g135 0 72 rfl
            have t140 := g135 0 73 rfl
            have t141 := g135 0 69 rfl
            have t142 := g135 0 6 rfl
            have t143 := g135 0 59 rfl
            have f144 := (gr_b_0_71 hI136)
            have f145 := (gr_b_0_72 hI136)
            have f146 := (gr_b_0_73 hI136)
            have f147 := (gr_b_0_69 hI136)
            have f148 := (gr_b_0_6 hI136)
            have f149 := (gr_b_0_59 hI136)
            have KLK_I136 := gr_LKs_fr KLK_I7 (fun k => g135 51 k rfl) (g135 0 59 rfl)
            have A150 := gr_ATp_F e1_9 g135 k135 rfl
            have t151 := gr_ATp_l A150
            refine gv_callV hD rfl (As := [.inl 5]) (st := []) rfl (by decide) rfl rfl (gr_lV hws rfl) (Nat.le_of_ble_eq_true rfl) (gz_Ev_mono (d := 2) (by decide) E135) ?_
            show gv_X _ _ (37, [(0, .inr (.inr (some 0))), (1, .inl a1), (2, .inl v2_9)], [.inl z135], gr_sh ++ ext, gr_h I136 J137)
            have b152 : (I136 0 71 = 5 ∨ I136 0 73 ≤ I136 0 69) ∧ (I136 0 72 ≤ I136 0 69) ∧ (I136 0 71 = 0 ∨ (I136 0 72 < I136 0 73 ∧ I136 0 72 < I136 0 69)) ∧ (I136 0 71 = 3 → 2 ≤ I136 0 73 - I136 0 72 ∧ I136 0 73 - I136 0 72 ≤ 14) ∧ (I136 0 72 ≤ I136 0 73) ∧ (I136 0 69 = I 0 69) ∧ (I 0 73 ≤ I136 0 73) ∧ (I 0 72 ≤ I136 0 72) ∧ (I136 0 59 - I136 0 72 ≤ I 0 59 - I 0 72) := by exact gz_m 140 (by omega)
            exact gv_zret hD rfl (by exact gz_m 141 (by omega)) ⟨I136, J137, rfl, hI136, FI136, FJ137, ⟨_, rfl, by exact gz_m 142 (by omega), by exact gz_m 143 (by omega), b152.1, b152.2.1, b152.2.2.1, b152.2.2.2.1, b152.2.2.2.2.1, b152.2.2.2.2.2.1, b152.2.2.2.2.2.2.1, b152.2.2.2.2.2.2.2.1, b152.2.2.2.2.2.2.2.2, KLK_I136, (Or.inr ⟨by exact gz_m 144 (by omega), by rw [e2_9, gs_sd_x (by exact gz_m 145 (by omega)) (by exact gz_m 146 (by omega))]; exact ⟨by exact gz_m 147 (by omega), by exact gz_m 148 (by omega)⟩⟩)⟩⟩
        · have t153 := gr_ATp_k e1_9 (c := 1) ⟨by exact gz_m 149 (by omega), by exact gz_m 150 (by omega)⟩
          refine gv_run 2 true hD (pc' := 21) (lv' := [(0, .inr (.inr (some 0))), (1, .inl a1), (2, .inl v2_9)]) (st' := [.inl 35, .inr (.inr (some 0))]) (h' := gr_h I7 J8) (C := ((True ∧ True) ∧ True)) rfl ⟨⟨trivial, trivial⟩, trivial⟩ ?_
          obtain ⟨r154, h154, E154, P154⟩ := r_sign_p (ws0 := ws0) (tb := tb) hws htb ext β N9 p_9 I7 J8 hI7 35 ⟨by exact gz_m 151 (by omega), by exact gz_m 152 (by omega)⟩ (by exact gz_m 153 (by omega)) e1_9 (by exact gz_m 154 (by omega))
          obtain ⟨rfl, ⟨z154, rfl, q154⟩⟩ := P154
          refine gv_callV hD rfl (As := [.inl 35]) (st := []) rfl (by decide) rfl rfl (gr_lV hws rfl) (Nat.le_of_ble_eq_true rfl) (gz_Ev_mono (d := 1) (by decide) E154) ?_
          show gv_X _ _ (24, [(0, .inr (.inr (some 0))), (1, .inl a1), (2, .inl v2_9)], [.inl z154], gr_sh ++ ext, gr_h I7 J8)
          refine gv_if_eq (t := 66) hD rfl rfl ⟨by exact gz_m 155 (by omega), by exact gz_m 156 (by omega)⟩ (fun c155 => ?_) (fun c155 => ?_)
          · exact L66 _ I7 J8 v2_9 p_9 (Nat.lt_succ_self _) hI7 FI7 FJ8 KLK_I7 (by exact gz_m 157 (by omega)) e1_9 (e2_9.trans (gs_sd_e (by exact gz_m 158 (by omega)))) (gs_s3_0 e3_9 (by exact gz_m 159 (by omega)) (by exact gz_m 160 (by omega)))
          · refine gv_run 2 true hD (pc' := 29) (lv' := [(0, .inr (.inr (some 0))), (1, .inl a1), (2, .inl v2_9)]) (st' := [.inl 3, .inl v2_9]) (h' := gr_h I7 J8) (C := ((True ∧ True) ∧ True)) rfl ⟨⟨trivial, trivial⟩, trivial⟩ ?_
            refine gv_icmp_ne (t := 38) hD rfl rfl ⟨⟨by exact gz_m 161 (by omega), by exact gz_m 162 (by omega)⟩, ⟨by exact gz_m 163 (by omega), by exact gz_m 164 (by omega)⟩⟩ (fun c156 => ?_) (fun c156 => ?_)
            · refine gv_run 2 true hD (pc' := 40) (lv' := [(0, .inr (.inr (some 0))), (1, .inl a1), (2, .inl v2_9)]) (st' := [.inl 1, .inr (.inr (some 0))]) (h' := gr_h I7 J8) (C := ((True ∧ True) ∧ True)) rfl ⟨⟨trivial, trivial⟩, trivial⟩ ?_
              obtain ⟨r157, h157, E157, P157⟩ := r_context_p (ws0 := ws0) (tb := tb) hws htb ext β N9 p_9 I7 J8 hI7 1 ⟨by exact gz_m 165 (by omega), by exact gz_m 166 (by omega)⟩ (by exact gz_m 167 (by omega)) (by exact gz_m 168 (by omega)) (by exact gz_m 169 (by omega)) (by exact gz_m 170 (by omega)) (by exact gz_m 171 (by omega)) (by exact gz_m 172 (by omega)) (by exact gz_m 173 (by omega)) e1_9 (by exact gz_m 174 (by omega))
              obtain ⟨I158, J159, rfl, hI158, g157, k157, ⟨z157, rfl, q157⟩⟩ := P157
              have FI158 := gr_frt FI7 g157 rfl rfl
              have FJ159 := gr_fjt FJ8 k157 rfl rfl
              have t160 := g157 0 69 rfl
              have t161 := g157 0 6 rfl
              have f162 := (gr_b_0_71 hI158)
              have f163 := (gr_b_0_72 hI158)
              have f164 := (gr_b_0_73 hI158)
              have f165 := (gr_b_0_69 hI158)
              have f166 := (gr_b_0_6 hI158)
              have f167 := (gr_b_0_59 hI158)
              have l157 := q157.2.2.2.2.2.2.2.2.2.2.2.2.1
              have KLK_I158 := gr_LKs_tr KLK_I7 l157
              refine gv_callV hD rfl (As := [.inl 1]) (st := []) rfl (by decide) rfl rfl (gr_lV hws rfl) (Nat.le_of_ble_eq_true rfl) (gz_Ev_mono (d := 11) (by decide) E157) ?_
              show gv_X _ _ (43, [(0, .inr (.inr (some 0))), (1, .inl a1), (2, .inl v2_9)], [.inl z157], gr_sh ++ ext, gr_h I158 J159)
              refine gv_if_ne (t := 48) hD rfl rfl ⟨by exact gz_m 175 (by omega), by exact gz_m 176 (by omega)⟩ (fun c168 => ?_) (fun c168 => ?_)
              · have Q169 := q157.2.2.2.2.2.2.2.2.2.2.2.2.2
                rw [gs_ctx_eq (FI7 0 6 rfl) (fun k => (FI7 15 k rfl)) (fun k => (FJ8 22 k rfl))] at Q169
                obtain ⟨u169, A169, U169⟩ := gs_or1 Q169 (by exact gz_m 177 (by omega))
                have t170 := gr_ATp_l A169
                have U169 := gs_cx_eq (FI7 0 6 rfl) (fun k => (FI7 15 k rfl)) (fun k => (FJ8 22 k rfl)) (fun k => (FI7 26 k rfl)) U169
                refine gv_run 7 true hD (pc' := 59) (lv' := [(2, .inl (v2_9 + 1)), (0, .inr (.inr (some 0))), (1, .inl a1)]) (st' := [.inr (.inr (some 0)), .inl (a1 + v2_9), .inr (.inr (some 63))]) (h' := gr_h I158 J159) (C := (((((((True ∧ True) ∧ True) ∧ True) ∧ True) ∧ True) ∧ True) ∧ True)) rfl ⟨⟨⟨⟨⟨⟨⟨trivial, trivial⟩, trivial⟩, trivial⟩, trivial⟩, trivial⟩, trivial⟩, trivial⟩ ?_
                have f171 := (show ((-2147483648) ≤ I158 0 104 ∧ I158 0 104 ≤ 2147483647) ∧ ((I158 0 104) = -2147483648 ∨ (I158 0 104) = 2147483647 ∨ -16 ≤ (I158 0 104) ∧ (I158 0 104) ≤ 32015) from hI158 0 104)
                refine gv_run 2 true hD (pc' := 63) (lv' := [(2, .inl (v2_9 + 1)), (0, .inr (.inr (some 0))), (1, .inl a1)]) (st' := []) (h' := gz_up (gr_h I158 J159) 63 (Int.toNat ((a1 + v2_9))) (.inl (I158 0 104))) (C := ((True ∧ True) ∧ (0 ≤ (a1 + v2_9) ∧ (a1 + v2_9) < ((6 : Nat) : Int)))) rfl ⟨⟨trivial, trivial⟩, ⟨by exact gz_m 178 (by omega), by exact gz_m 179 (by omega)⟩⟩ ?_
                refine gr_st hI158 FI158 rfl rfl ⟨⟨by show (-2147483648) ≤ _; exact gz_m 180 (by omega), by show _ ≤ 2147483647; exact gz_m 181 (by omega)⟩, by show ((I158 0 104) = -2147483648 ∨ (I158 0 104) = 2147483647 ∨ -16 ≤ (I158 0 104) ∧ (I158 0 104) ≤ 32015); exact gz_m 182 (by omega)⟩ (fun I172 hI172 FI172 q173 p173 => ?_)
                have t174 := p173 0 71 (fun q => absurd q.1 (by decide))
                have t175 := p173 0 72 (fun q => absurd q.1 (by decide))
                have t176 := p173 0 73 (fun q => absurd q.1 (by decide))
                have t177 := p173 0 69 (fun q => absurd q.1 (by decide))
                have t178 := p173 0 6 (fun q => absurd q.1 (by decide))
                have t179 := p173 0 59 (fun q => absurd q.1 (by decide))
                have f180 := (gr_b_0_71 hI172)
                have f181 := (gr_b_0_72 hI172)
                have f182 := (gr_b_0_73 hI172)
                have f183 := (gr_b_0_69 hI172)
                have f184 := (gr_b_0_6 hI172)
                have f185 := (gr_b_0_59 hI172)
                have KLK_I172 := gr_LKs_fr KLK_I158 (fun k => p173 51 k (fun q => absurd q.1 (by decide))) (p173 0 59 (fun q => absurd q.1 (by decide)))
                have A186 := gr_ATp_sr A169 p173 rfl
                refine gv_run 1 true hD (pc' := 2) (lv' := [(2, .inl (v2_9 + 1)), (0, .inr (.inr (some 0))), (1, .inl a1)]) (st' := []) (h' := gr_h I172 J159) (C := (True ∧ True)) rfl ⟨trivial, trivial⟩ ?_
                refine gv_pick [1, 2, 0] rfl ?_
                exact ih2 I172 J159 (v2_9 + 1) (gs_ctx β N9 I J 1 p_9) (by exact gz_m 183 (by omega)) hI172 FI172 FJ159 KLK_I172 (by exact gz_m 184 (by omega)) A186 (e2_9.trans (gs_sd_s (by exact gz_m 185 (by omega)) (by exact gz_m 186 (by omega)) (by exact gz_m 187 (by omega)))) (gs_s2_s e3_9 ⟨by exact gz_m 188 (by omega), by exact gz_m 189 (by omega)⟩ (by exact gz_m 190 (by omega)) (by exact gz_m 191 (by omega)) l157 (fun j => g157 63 j rfl) U169 rfl rfl p173 q173 (gs_ctx_x (by exact gz_m 192 (by omega)) (by exact gz_m 193 (by omega))))
              · have Q187 := q157.2.2.2.2.2.2.2.2.2.2.2.2.2
                rw [gs_ctx_eq (FI7 0 6 rfl) (fun k => (FI7 15 k rfl)) (fun k => (FJ8 22 k rfl))] at Q187
                obtain ⟨u187, u187_⟩ := gs_or0 Q187 (by exact gz_m 194 (by omega))
                refine gv_run 1 true hD (pc' := 47) (lv' := [(0, .inr (.inr (some 0))), (1, .inl a1), (2, .inl v2_9)]) (st' := [.inl 0]) (h' := gr_h I158 J159) (C := (True ∧ True)) rfl ⟨trivial, trivial⟩ ?_
                have b188 : (I158 0 71 = 5 ∨ I158 0 73 ≤ I158 0 69) ∧ (I158 0 72 ≤ I158 0 69) ∧ (I158 0 71 = 0 ∨ (I158 0 72 < I158 0 73 ∧ I158 0 72 < I158 0 69)) ∧ (I158 0 71 = 3 → 2 ≤ I158 0 73 - I158 0 72 ∧ I158 0 73 - I158 0 72 ≤ 14) ∧ (I158 0 72 ≤ I158 0 73) ∧ (I158 0 69 = I 0 69) ∧ (I 0 73 ≤ I158 0 73) ∧ (I 0 72 ≤ I158 0 72) ∧ (I158 0 59 - I158 0 72 ≤ I 0 59 - I 0 72) := by exact gz_m 195 (by omega)
                exact gv_zret hD rfl (by exact gz_m 196 (by omega)) ⟨I158, J159, rfl, hI158, FI158, FJ159, ⟨_, rfl, by exact gz_m 197 (by omega), by exact gz_m 198 (by omega), b188.1, b188.2.1, b188.2.2.1, b188.2.2.2.1, b188.2.2.2.2.1, b188.2.2.2.2.2.1, b188.2.2.2.2.2.2.1, b188.2.2.2.2.2.2.2.1, b188.2.2.2.2.2.2.2.2, KLK_I158, (Or.inr ⟨by exact gz_m 199 (by omega), by rw [e2_9, gs_sd_c (by exact gz_m 200 (by omega)) (by exact gz_m 201 (by omega)) (by exact gz_m 202 (by omega))]; exact ⟨by exact gz_m 203 (by omega), by exact gz_m 204 (by omega)⟩⟩)⟩⟩
            · refine gv_run 2 true hD (pc' := 34) (lv' := [(0, .inr (.inr (some 0))), (1, .inl a1), (2, .inl v2_9)]) (st' := [.inl 5, .inr (.inr (some 0))]) (h' := gr_h I7 J8) (C := ((True ∧ True) ∧ True)) rfl ⟨⟨trivial, trivial⟩, trivial⟩ ?_
              obtain ⟨r189, h189, E189, P189⟩ := r_no__p (ws0 := ws0) (tb := tb) hws htb ext β N9 p_9 I7 J8 hI7 5 ⟨by exact gz_m 205 (by omega), by exact gz_m 206 (by omega)⟩ e1_9 (by exact gz_m 207 (by omega))
              obtain ⟨I190, J191, rfl, hI190, g189, k189, ⟨z189, rfl, q189⟩⟩ := P189
              have FI190 := gr_frt FI7 g189 rfl rfl
              have FJ191 := gr_fjt FJ8 k189 rfl rfl
              have t192 := g189 0 71 rfl
              have t193 := g189 0 72 rfl
              have t194 := g189 0 73 rfl
              have t195 := g189 0 69 rfl
              have t196 := g189 0 6 rfl
              have t197 := g189 0 59 rfl
              have f198 := (gr_b_0_71 hI190)
              have f199 := (gr_b_0_72 hI190)
              have f200 := (gr_b_0_73 hI190)
              have f201 := (gr_b_0_69 hI190)
              have f202 := (gr_b_0_6 hI190)
              have f203 := (gr_b_0_59 hI190)
              have KLK_I190 := gr_LKs_fr KLK_I7 (fun k => g189 51 k rfl) (g189 0 59 rfl)
              have A204 := gr_ATp_F e1_9 g189 k189 rfl
              have t205 := gr_ATp_l A204
              refine gv_callV hD rfl (As := [.inl 5]) (st := []) rfl (by decide) rfl rfl (gr_lV hws rfl) (Nat.le_of_ble_eq_true rfl) (gz_Ev_mono (d := 2) (by decide) E189) ?_
              show gv_X _ _ (37, [(0, .inr (.inr (some 0))), (1, .inl a1), (2, .inl v2_9)], [.inl z189], gr_sh ++ ext, gr_h I190 J191)
              have b206 : (I190 0 71 = 5 ∨ I190 0 73 ≤ I190 0 69) ∧ (I190 0 72 ≤ I190 0 69) ∧ (I190 0 71 = 0 ∨ (I190 0 72 < I190 0 73 ∧ I190 0 72 < I190 0 69)) ∧ (I190 0 71 = 3 → 2 ≤ I190 0 73 - I190 0 72 ∧ I190 0 73 - I190 0 72 ≤ 14) ∧ (I190 0 72 ≤ I190 0 73) ∧ (I190 0 69 = I 0 69) ∧ (I 0 73 ≤ I190 0 73) ∧ (I 0 72 ≤ I190 0 72) ∧ (I190 0 59 - I190 0 72 ≤ I 0 59 - I 0 72) := by exact gz_m 208 (by omega)
              exact gv_zret hD rfl (by exact gz_m 209 (by omega)) ⟨I190, J191, rfl, hI190, FI190, FJ191, ⟨_, rfl, by exact gz_m 210 (by omega), by exact gz_m 211 (by omega), b206.1, b206.2.1, b206.2.2.1, b206.2.2.2.1, b206.2.2.2.2.1, b206.2.2.2.2.2.1, b206.2.2.2.2.2.2.1, b206.2.2.2.2.2.2.2.1, b206.2.2.2.2.2.2.2.2, KLK_I190, (Or.inr ⟨by exact gz_m 212 (by omega), by rw [e2_9, gs_sd_x (by exact gz_m 213 (by omega)) (by exact gz_m 214 (by omega))]; exact ⟨by exact gz_m 215 (by omega), by exact gz_m 216 (by omega)⟩⟩)⟩⟩
  refine gv_run 2 true hD (pc' := 2) (lv' := [(2, .inl 0), (0, .inr (.inr (some 0))), (1, .inl a1)]) (st' := []) (h' := gr_h I J) (C := ((True ∧ True) ∧ True)) rfl ⟨⟨trivial, trivial⟩, trivial⟩ ?_
  refine gv_pick [1, 2, 0] rfl ?_
  exact L2 _ I J 0 p9 (Nat.lt_succ_self _) hI FI FJ KLK_I (by exact gz_m 217 (by omega)) x7 rfl gs_s2_0
