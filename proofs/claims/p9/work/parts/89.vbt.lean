theorem gv_p5 {α β γ δ ε : Type} {a : α} {b : β} {c : γ} {d : δ} {x : ε} : (a, b, c, d, x).2.2.2.2 = x := rfl
theorem gv_Ytr {E : gv_E} {Q : gz_S → Nat → Nat → Prop} {u w : gz_S} {a0 s0 : Nat} (h1 : gv_Y E (fun v a s => v = w ∧ a = a0 ∧ s = s0) u) (h2 : gv_Y E (fun v a s => Q v (a0 + a) (s0 + s)) w) : gv_Y E Q u := by
  obtain ⟨n1, v1, a1, s1, g1, rfl, rfl, rfl⟩ := h1
  obtain ⟨n2, v2, a2, s2, g2, q⟩ := h2
  exact ⟨n1 + n2, v2, a1 + a2, s1 + s2, gz_to_trans g1 g2, q⟩
theorem mt_0 {ws0 : List Cond} {tb : String → gz_T} (hw : gc_Wn ws0) (hws : gc_Ws ws0) (htb : gc_tbs tb) (d : Nat) {sh : gz_Sh} {I : gr_I} {J : gr_J} {A : gc_A} {p : Nat} (hl0 : sh.length = p + 1) (hB : p + 25 ≤ 1000000) (hs : sh[p]? = some (false, 11, 16)) (h20p : 20 < p + 1) (hok : gc_OK sh I J A) : gv_Y (gc_Ei11 ws0 tb (d + 2) (yX11_init, cX11_init, 2, none) kX11_init) (fun v a s => v = (17, [(0, .inr (.inr (some p))), (1, .inr (.inr (some 20)))], [], ((sh ++ [(false, 4, 2)]) ++ [(true, 2, 8)]), gc_h ((sh ++ [(false, 4, 2)]) ++ [(true, 2, 8)]) I J (gc_u (gc_u A (p + 1) 0 (some ((p + 1) + 1))) p 0 (some (p + 1)))) ∧ a = 2 ∧ s = 10) (0, [(0, .inr (.inr (some p))), (1, .inr (.inr (some 20)))], [], sh, gc_h sh I J A) ∧ gc_OK ((sh ++ [(false, 4, 2)]) ++ [(true, 2, 8)]) I J (gc_u (gc_u A (p + 1) 0 (some ((p + 1) + 1))) p 0 (some (p + 1))) := by
  have ok1 := gc_OKx (x := (false, 4, 2)) hok (gc_nth2 (l := gc_nl gc_ts 4) rfl)
  have ln1 : (sh ++ [(false, 4, 2)]).length = p + 2 := gc_len1 hl0
  have S1_p := gc_gx (x := (false, 4, 2)) hs
  have S1_p1 := gc_gl (x := (false, 4, 2)) (p := (p + 1)) (by rw [hl0])
  have EV2 := m_X4_init hw hws htb (d + 1) (n := 8) (p := (p + 1)) (J := J) (Nat.le_of_ble_eq_true rfl) (by rw [ln1]) (Nat.le_trans (show p + 3 ≤ p + 25 from Nat.add_le_add_left (by decide) p) hB) S1_p1 ok1
  have ok3 := mo_X4_init hw hws htb (d + 1) (n := 8) (p := (p + 1)) (J := J) (Nat.le_of_ble_eq_true rfl) (by rw [ln1]) (Nat.le_trans (show p + 3 ≤ p + 25 from Nat.add_le_add_left (by decide) p) hB) S1_p1 ok1
  have ln3 : ((sh ++ [(false, 4, 2)]) ++ [(true, 2, 8)]).length = p + 3 := gc_len1 ln1
  have S3_p := gc_gx (x := (true, 2, 8)) S1_p
  have S3_p2 := gc_gl (x := (true, 2, 8)) (p := (p + 2)) (by rw [ln1])
  have ok4 := gc_OKu (k := 0) (q := (p + 1)) ok3 S3_p rfl (by rw [ln3]; exact Nat.add_lt_add_left (by decide) p)
  refine ⟨?_, ok4⟩
  have hD : gv_D (gc_Ei11 ws0 tb (d + 2) (yX11_init, cX11_init, 2, none) kX11_init) := gq_of oX11_init
  refine gv_lift (fun hk => gv_run 1 true hD (pcₚ := 1) (lvₚ := [(0, .inr (.inr (some p))), (1, .inr (.inr (some 20)))]) (stₚ := [.inr (.inr (some p))]) (hₚ := gc_h sh I J A) (C := (True ∧ True)) rfl ⟨trivial, trivial⟩ hk) ?_
  refine gc_Yobj hD (ix := 3) rfl (Nat.le_of_ble_eq_true rfl) (hw.1 _ (List.mem_of_getElem? (i := 8) rfl)) (hw.1 _ (List.mem_of_getElem? (i := 1) rfl)) (hw.1 _ (List.mem_of_getElem? (i := 2) rfl)) ?_
  refine gv_lift (fun hk => gv_run 1 true hD (pcₚ := 5) (lvₚ := [(0, .inr (.inr (some p))), (1, .inr (.inr (some 20)))]) (stₚ := [.inr (.inr (some p))]) (hₚ := gc_h sh I J A) (C := (True ∧ True)) rfl ⟨trivial, trivial⟩ hk) ?_
  refine gc_Ynew hD (ix := 9) (ci := 4) (n := 2) (r := (p + 1)) (C := RX4) (T := TX4) (ty := tyX4) rfl rfl (gc_lN4 hw (hw.1 _ (List.mem_of_getElem? (i := 9) rfl))) (by rw [hl0]; exact Nat.lt_of_lt_of_le (show p + 1 < p + 25 from Nat.add_lt_add_left (by decide) p) hB) hok (gc_okc (Or.inl (by rw [hl0]; exact Nat.lt_add_of_pos_right (by decide))) (gc_okc (Or.inl (by rw [hl0]; exact Nat.lt_of_lt_of_le h20p (Nat.add_le_add_left (by decide) p))) gc_ok0)) (gc_oks (Or.inl (by rw [hl0]; exact Nat.lt_add_of_pos_right (by decide))) gc_ok0) gc_dy4 (by rw [hl0]) ?_
  refine gv_lift (fun hk => gv_run 2 true hD (pcₚ := 11) (lvₚ := [(0, .inr (.inr (some p))), (1, .inr (.inr (some 20)))]) (stₚ := [.inl 8, .inr (.inr (some (p + 1))), .inr (.inr (some (p + 1))), .inr (.inr (some p))]) (hₚ := gc_h (sh ++ [(false, 4, 2)]) I J A) (C := ((True ∧ True) ∧ True)) rfl ⟨⟨trivial, trivial⟩, trivial⟩ hk) ?_
  refine gc_Yspec hD (ix := 11) (M := (yX4_init, cX4_init, 2, none)) (As := [.inl ((8 : Nat) : Int)]) (b := (p + 1)) (st := [.inr (.inr (some (p + 1))), .inr (.inr (some p))]) rfl ⟨(hw.1 _ (List.mem_of_getElem? (i := 10) rfl)), (hw.1 _ (List.mem_of_getElem? (i := 11) rfl)), (hw.1 _ (List.mem_of_getElem? (i := 12) rfl)), rfl, rfl, ⟨by decide +kernel, by decide +kernel, by decide +kernel⟩, Nat.le_of_ble_eq_true rfl, Or.inl (hw.1 _ (List.mem_of_getElem? (i := 13) rfl))⟩ rfl (Nat.le_of_ble_eq_true rfl) EV2 (gc_okc (Or.inl (by rw [ln1]; exact Nat.lt_add_of_pos_right (by decide))) (gc_okc (Or.inl (by rw [ln1]; exact Nat.lt_of_lt_of_le h20p (Nat.add_le_add_left (by decide) p))) gc_ok0)) (gc_oks (Or.inl (by rw [ln1]; exact Nat.add_lt_add_left (by decide) p)) (gc_oks (Or.inl (by rw [ln1]; exact Nat.lt_add_of_pos_right (by decide))) gc_ok0)) ?_
  refine gv_lift (fun hk => gv_put hD rfl rfl S3_p ⟨by decide, (Nat.lt_of_lt_of_le (show p < p + 25 from Nat.lt_add_of_pos_right (by decide)) hB)⟩ rfl trivial hk) ?_
  rw [gc_hUA S3_p rfl]
  exact gv_Yend ⟨rfl, rfl, rfl⟩
theorem mt_1 {ws0 : List Cond} {tb : String → gz_T} (hw : gc_Wn ws0) (hws : gc_Ws ws0) (htb : gc_tbs tb) (d : Nat) {sh : gz_Sh} {I : gr_I} {J : gr_J} {A : gc_A} {p : Nat} (hl0 : sh.length = p + 3) (hB : p + 25 ≤ 1000000) (hs : sh[p]? = some (false, 11, 16)) (h20p : 20 < p + 1) (hok : gc_OK sh I J A) : gv_Y (gc_Ei11 ws0 tb (d + 2) (yX11_init, cX11_init, 2, none) kX11_init) (fun v a s => v = (30, [(0, .inr (.inr (some p))), (1, .inr (.inr (some 20)))], [], ((sh ++ [(false, 4, 2)]) ++ [(true, 2, 48)]), gc_h ((sh ++ [(false, 4, 2)]) ++ [(true, 2, 48)]) I J (gc_u (gc_u A (p + 3) 0 (some ((p + 3) + 1))) p 1 (some (p + 3)))) ∧ a = 2 ∧ s = 50) (17, [(0, .inr (.inr (some p))), (1, .inr (.inr (some 20)))], [], sh, gc_h sh I J A) ∧ gc_OK ((sh ++ [(false, 4, 2)]) ++ [(true, 2, 48)]) I J (gc_u (gc_u A (p + 3) 0 (some ((p + 3) + 1))) p 1 (some (p + 3))) := by
  have ok1 := gc_OKx (x := (false, 4, 2)) hok (gc_nth2 (l := gc_nl gc_ts 4) rfl)
  have ln1 : (sh ++ [(false, 4, 2)]).length = p + 4 := gc_len1 hl0
  have S1_p := gc_gx (x := (false, 4, 2)) hs
  have S1_p3 := gc_gl (x := (false, 4, 2)) (p := (p + 3)) (by rw [hl0])
  have EV2 := m_X4_init hw hws htb (d + 1) (n := 48) (p := (p + 3)) (J := J) (Nat.le_of_ble_eq_true rfl) (by rw [ln1]) (Nat.le_trans (show p + 5 ≤ p + 25 from Nat.add_le_add_left (by decide) p) hB) S1_p3 ok1
  have ok3 := mo_X4_init hw hws htb (d + 1) (n := 48) (p := (p + 3)) (J := J) (Nat.le_of_ble_eq_true rfl) (by rw [ln1]) (Nat.le_trans (show p + 5 ≤ p + 25 from Nat.add_le_add_left (by decide) p) hB) S1_p3 ok1
  have ln3 : ((sh ++ [(false, 4, 2)]) ++ [(true, 2, 48)]).length = p + 5 := gc_len1 ln1
  have S3_p := gc_gx (x := (true, 2, 48)) S1_p
  have S3_p4 := gc_gl (x := (true, 2, 48)) (p := (p + 4)) (by rw [ln1])
  have ok4 := gc_OKu (k := 1) (q := (p + 3)) ok3 S3_p rfl (by rw [ln3]; exact Nat.add_lt_add_left (by decide) p)
  refine ⟨?_, ok4⟩
  have hD : gv_D (gc_Ei11 ws0 tb (d + 2) (yX11_init, cX11_init, 2, none) kX11_init) := gq_of oX11_init
  refine gv_lift (fun hk => gv_run 1 true hD (pcₚ := 18) (lvₚ := [(0, .inr (.inr (some p))), (1, .inr (.inr (some 20)))]) (stₚ := [.inr (.inr (some p))]) (hₚ := gc_h sh I J A) (C := (True ∧ True)) rfl ⟨trivial, trivial⟩ hk) ?_
  refine gc_Ynew hD (ix := 9) (ci := 4) (n := 2) (r := (p + 3)) (C := RX4) (T := TX4) (ty := tyX4) rfl rfl (gc_lN4 hw (hw.1 _ (List.mem_of_getElem? (i := 9) rfl))) (by rw [hl0]; exact Nat.lt_of_lt_of_le (show p + 3 < p + 25 from Nat.add_lt_add_left (by decide) p) hB) hok (gc_okc (Or.inl (by rw [hl0]; exact Nat.lt_add_of_pos_right (by decide))) (gc_okc (Or.inl (by rw [hl0]; exact Nat.lt_of_lt_of_le h20p (Nat.add_le_add_left (by decide) p))) gc_ok0)) (gc_oks (Or.inl (by rw [hl0]; exact Nat.lt_add_of_pos_right (by decide))) gc_ok0) gc_dy4 (by rw [hl0]) ?_
  refine gv_lift (fun hk => gv_run 2 true hD (pcₚ := 24) (lvₚ := [(0, .inr (.inr (some p))), (1, .inr (.inr (some 20)))]) (stₚ := [.inl 48, .inr (.inr (some (p + 3))), .inr (.inr (some (p + 3))), .inr (.inr (some p))]) (hₚ := gc_h (sh ++ [(false, 4, 2)]) I J A) (C := ((True ∧ True) ∧ True)) rfl ⟨⟨trivial, trivial⟩, trivial⟩ hk) ?_
  refine gc_Yspec hD (ix := 11) (M := (yX4_init, cX4_init, 2, none)) (As := [.inl ((48 : Nat) : Int)]) (b := (p + 3)) (st := [.inr (.inr (some (p + 3))), .inr (.inr (some p))]) rfl ⟨(hw.1 _ (List.mem_of_getElem? (i := 10) rfl)), (hw.1 _ (List.mem_of_getElem? (i := 11) rfl)), (hw.1 _ (List.mem_of_getElem? (i := 12) rfl)), rfl, rfl, ⟨by decide +kernel, by decide +kernel, by decide +kernel⟩, Nat.le_of_ble_eq_true rfl, Or.inl (hw.1 _ (List.mem_of_getElem? (i := 13) rfl))⟩ rfl (Nat.le_of_ble_eq_true rfl) EV2 (gc_okc (Or.inl (by rw [ln1]; exact Nat.lt_add_of_pos_right (by decide))) (gc_okc (Or.inl (by rw [ln1]; exact Nat.lt_of_lt_of_le h20p (Nat.add_le_add_left (by decide) p))) gc_ok0)) (gc_oks (Or.inl (by rw [ln1]; exact Nat.add_lt_add_left (by decide) p)) (gc_oks (Or.inl (by rw [ln1]; exact Nat.lt_add_of_pos_right (by decide))) gc_ok0)) ?_
  refine gv_lift (fun hk => gv_put hD rfl rfl S3_p ⟨by decide, (Nat.lt_of_lt_of_le (show p < p + 25 from Nat.lt_add_of_pos_right (by decide)) hB)⟩ rfl trivial hk) ?_
  rw [gc_hUA S3_p rfl]
  exact gv_Yend ⟨rfl, rfl, rfl⟩
theorem mt_2 {ws0 : List Cond} {tb : String → gz_T} (hw : gc_Wn ws0) (hws : gc_Ws ws0) (htb : gc_tbs tb) (d : Nat) {sh : gz_Sh} {I : gr_I} {J : gr_J} {A : gc_A} {p : Nat} (hl0 : sh.length = p + 5) (hB : p + 25 ≤ 1000000) (hs : sh[p]? = some (false, 11, 16)) (h20p : 20 < p + 1) (hok : gc_OK sh I J A) : gv_Y (gc_Ei11 ws0 tb (d + 2) (yX11_init, cX11_init, 2, none) kX11_init) (fun v a s => v = (38, [(0, .inr (.inr (some p))), (1, .inr (.inr (some 20)))], [], (sh ++ [(true, 1, 48)]), gc_h (sh ++ [(true, 1, 48)]) I J (gc_u A p 2 (some (p + 5)))) ∧ a = 1 ∧ s = 48) (30, [(0, .inr (.inr (some p))), (1, .inr (.inr (some 20)))], [], sh, gc_h sh I J A) ∧ gc_OK (sh ++ [(true, 1, 48)]) I J (gc_u A p 2 (some (p + 5))) := by
  have ok1 := gc_OKx (x := (true, 1, 48)) hok (fun k => Nat.le_of_ble_eq_true rfl)
  have ln1 : (sh ++ [(true, 1, 48)]).length = p + 6 := gc_len1 hl0
  have S1_p := gc_gx (x := (true, 1, 48)) hs
  have S1_p5 := gc_gl (x := (true, 1, 48)) (p := (p + 5)) (by rw [hl0])
  have ok2 := gc_OKu (k := 2) (q := (p + 5)) ok1 S1_p rfl (by rw [ln1]; exact Nat.add_lt_add_left (by decide) p)
  refine ⟨?_, ok2⟩
  have hD : gv_D (gc_Ei11 ws0 tb (d + 2) (yX11_init, cX11_init, 2, none) kX11_init) := gq_of oX11_init
  refine gv_lift (fun hk => gv_run 2 true hD (pcₚ := 33) (lvₚ := [(0, .inr (.inr (some p))), (1, .inr (.inr (some 20)))]) (stₚ := [.inl 48, .inr (.inr (some p))]) (hₚ := gc_h sh I J A) (C := ((True ∧ True) ∧ True)) rfl ⟨⟨trivial, trivial⟩, trivial⟩ hk) ?_
  show gv_Y _ _ (_, _, .inl ((48 : Nat) : Int) :: _, _, _)
  refine gc_Yarr hD (at_ := .int) (t := 1) (n := 48) (r := (p + 5)) rfl rfl (hw.1 _ (List.mem_of_getElem? (i := 3) rfl)) (Nat.le_of_ble_eq_true rfl) (Nat.le_of_ble_eq_true rfl) (by rw [hl0]; exact Nat.lt_of_lt_of_le (show p + 5 < p + 25 from Nat.add_lt_add_left (by decide) p) hB) hok (gc_okc (Or.inl (by rw [hl0]; exact Nat.lt_add_of_pos_right (by decide))) (gc_okc (Or.inl (by rw [hl0]; exact Nat.lt_of_lt_of_le h20p (Nat.add_le_add_left (by decide) p))) gc_ok0)) (gc_oks (Or.inl (by rw [hl0]; exact Nat.lt_add_of_pos_right (by decide))) gc_ok0) (by rw [hl0]) ?_
  refine gv_lift (fun hk => gv_put hD rfl rfl S1_p ⟨by decide, (Nat.lt_of_lt_of_le (show p < p + 25 from Nat.lt_add_of_pos_right (by decide)) hB)⟩ rfl trivial hk) ?_
  rw [gc_hUA S1_p rfl]
  exact gv_Yend ⟨rfl, rfl, rfl⟩
theorem mt_3 {ws0 : List Cond} {tb : String → gz_T} (hw : gc_Wn ws0) (hws : gc_Ws ws0) (htb : gc_tbs tb) (d : Nat) {sh : gz_Sh} {I : gr_I} {J : gr_J} {A : gc_A} {p : Nat} (hl0 : sh.length = p + 6) (hB : p + 25 ≤ 1000000) (hs : sh[p]? = some (false, 11, 16)) (h20p : 20 < p + 1) (hok : gc_OK sh I J A) : gv_Y (gc_Ei11 ws0 tb (d + 2) (yX11_init, cX11_init, 2, none) kX11_init) (fun v a s => v = (46, [(0, .inr (.inr (some p))), (1, .inr (.inr (some 20)))], [], (sh ++ [(true, 1, 48)]), gc_h (sh ++ [(true, 1, 48)]) I J (gc_u A p 3 (some (p + 6)))) ∧ a = 1 ∧ s = 48) (38, [(0, .inr (.inr (some p))), (1, .inr (.inr (some 20)))], [], sh, gc_h sh I J A) ∧ gc_OK (sh ++ [(true, 1, 48)]) I J (gc_u A p 3 (some (p + 6))) := by
  have ok1 := gc_OKx (x := (true, 1, 48)) hok (fun k => Nat.le_of_ble_eq_true rfl)
  have ln1 : (sh ++ [(true, 1, 48)]).length = p + 7 := gc_len1 hl0
  have S1_p := gc_gx (x := (true, 1, 48)) hs
  have S1_p6 := gc_gl (x := (true, 1, 48)) (p := (p + 6)) (by rw [hl0])
  have ok2 := gc_OKu (k := 3) (q := (p + 6)) ok1 S1_p rfl (by rw [ln1]; exact Nat.add_lt_add_left (by decide) p)
  refine ⟨?_, ok2⟩
  have hD : gv_D (gc_Ei11 ws0 tb (d + 2) (yX11_init, cX11_init, 2, none) kX11_init) := gq_of oX11_init
  refine gv_lift (fun hk => gv_run 2 true hD (pcₚ := 41) (lvₚ := [(0, .inr (.inr (some p))), (1, .inr (.inr (some 20)))]) (stₚ := [.inl 48, .inr (.inr (some p))]) (hₚ := gc_h sh I J A) (C := ((True ∧ True) ∧ True)) rfl ⟨⟨trivial, trivial⟩, trivial⟩ hk) ?_
  show gv_Y _ _ (_, _, .inl ((48 : Nat) : Int) :: _, _, _)
  refine gc_Yarr hD (at_ := .int) (t := 1) (n := 48) (r := (p + 6)) rfl rfl (hw.1 _ (List.mem_of_getElem? (i := 3) rfl)) (Nat.le_of_ble_eq_true rfl) (Nat.le_of_ble_eq_true rfl) (by rw [hl0]; exact Nat.lt_of_lt_of_le (show p + 6 < p + 25 from Nat.add_lt_add_left (by decide) p) hB) hok (gc_okc (Or.inl (by rw [hl0]; exact Nat.lt_add_of_pos_right (by decide))) (gc_okc (Or.inl (by rw [hl0]; exact Nat.lt_of_lt_of_le h20p (Nat.add_le_add_left (by decide) p))) gc_ok0)) (gc_oks (Or.inl (by rw [hl0]; exact Nat.lt_add_of_pos_right (by decide))) gc_ok0) (by rw [hl0]) ?_
  refine gv_lift (fun hk => gv_put hD rfl rfl S1_p ⟨by decide, (Nat.lt_of_lt_of_le (show p < p + 25 from Nat.lt_add_of_pos_right (by decide)) hB)⟩ rfl trivial hk) ?_
  rw [gc_hUA S1_p rfl]
  exact gv_Yend ⟨rfl, rfl, rfl⟩
theorem mt_4 {ws0 : List Cond} {tb : String → gz_T} (hw : gc_Wn ws0) (hws : gc_Ws ws0) (htb : gc_tbs tb) (d : Nat) {sh : gz_Sh} {I : gr_I} {J : gr_J} {A : gc_A} {p : Nat} (hl0 : sh.length = p + 7) (hB : p + 25 ≤ 1000000) (hs : sh[p]? = some (false, 11, 16)) (h20p : 20 < p + 1) (hok : gc_OK sh I J A) : gv_Y (gc_Ei11 ws0 tb (d + 2) (yX11_init, cX11_init, 2, none) kX11_init) (fun v a s => v = (59, [(0, .inr (.inr (some p))), (1, .inr (.inr (some 20)))], [], ((sh ++ [(false, 4, 2)]) ++ [(true, 2, 16)]), gc_h ((sh ++ [(false, 4, 2)]) ++ [(true, 2, 16)]) I J (gc_u (gc_u A (p + 7) 0 (some ((p + 7) + 1))) p 4 (some (p + 7)))) ∧ a = 2 ∧ s = 18) (46, [(0, .inr (.inr (some p))), (1, .inr (.inr (some 20)))], [], sh, gc_h sh I J A) ∧ gc_OK ((sh ++ [(false, 4, 2)]) ++ [(true, 2, 16)]) I J (gc_u (gc_u A (p + 7) 0 (some ((p + 7) + 1))) p 4 (some (p + 7))) := by
  have ok1 := gc_OKx (x := (false, 4, 2)) hok (gc_nth2 (l := gc_nl gc_ts 4) rfl)
  have ln1 : (sh ++ [(false, 4, 2)]).length = p + 8 := gc_len1 hl0
  have S1_p := gc_gx (x := (false, 4, 2)) hs
  have S1_p7 := gc_gl (x := (false, 4, 2)) (p := (p + 7)) (by rw [hl0])
  have EV2 := m_X4_init hw hws htb (d + 1) (n := 16) (p := (p + 7)) (J := J) (Nat.le_of_ble_eq_true rfl) (by rw [ln1]) (Nat.le_trans (show p + 9 ≤ p + 25 from Nat.add_le_add_left (by decide) p) hB) S1_p7 ok1
  have ok3 := mo_X4_init hw hws htb (d + 1) (n := 16) (p := (p + 7)) (J := J) (Nat.le_of_ble_eq_true rfl) (by rw [ln1]) (Nat.le_trans (show p + 9 ≤ p + 25 from Nat.add_le_add_left (by decide) p) hB) S1_p7 ok1
  have ln3 : ((sh ++ [(false, 4, 2)]) ++ [(true, 2, 16)]).length = p + 9 := gc_len1 ln1
  have S3_p := gc_gx (x := (true, 2, 16)) S1_p
  have S3_p8 := gc_gl (x := (true, 2, 16)) (p := (p + 8)) (by rw [ln1])
  have ok4 := gc_OKu (k := 4) (q := (p + 7)) ok3 S3_p rfl (by rw [ln3]; exact Nat.add_lt_add_left (by decide) p)
  refine ⟨?_, ok4⟩
  have hD : gv_D (gc_Ei11 ws0 tb (d + 2) (yX11_init, cX11_init, 2, none) kX11_init) := gq_of oX11_init
  refine gv_lift (fun hk => gv_run 1 true hD (pcₚ := 47) (lvₚ := [(0, .inr (.inr (some p))), (1, .inr (.inr (some 20)))]) (stₚ := [.inr (.inr (some p))]) (hₚ := gc_h sh I J A) (C := (True ∧ True)) rfl ⟨trivial, trivial⟩ hk) ?_
  refine gc_Ynew hD (ix := 9) (ci := 4) (n := 2) (r := (p + 7)) (C := RX4) (T := TX4) (ty := tyX4) rfl rfl (gc_lN4 hw (hw.1 _ (List.mem_of_getElem? (i := 9) rfl))) (by rw [hl0]; exact Nat.lt_of_lt_of_le (show p + 7 < p + 25 from Nat.add_lt_add_left (by decide) p) hB) hok (gc_okc (Or.inl (by rw [hl0]; exact Nat.lt_add_of_pos_right (by decide))) (gc_okc (Or.inl (by rw [hl0]; exact Nat.lt_of_lt_of_le h20p (Nat.add_le_add_left (by decide) p))) gc_ok0)) (gc_oks (Or.inl (by rw [hl0]; exact Nat.lt_add_of_pos_right (by decide))) gc_ok0) gc_dy4 (by rw [hl0]) ?_
  refine gv_lift (fun hk => gv_run 2 true hD (pcₚ := 53) (lvₚ := [(0, .inr (.inr (some p))), (1, .inr (.inr (some 20)))]) (stₚ := [.inl 16, .inr (.inr (some (p + 7))), .inr (.inr (some (p + 7))), .inr (.inr (some p))]) (hₚ := gc_h (sh ++ [(false, 4, 2)]) I J A) (C := ((True ∧ True) ∧ True)) rfl ⟨⟨trivial, trivial⟩, trivial⟩ hk) ?_
  refine gc_Yspec hD (ix := 11) (M := (yX4_init, cX4_init, 2, none)) (As := [.inl ((16 : Nat) : Int)]) (b := (p + 7)) (st := [.inr (.inr (some (p + 7))), .inr (.inr (some p))]) rfl ⟨(hw.1 _ (List.mem_of_getElem? (i := 10) rfl)), (hw.1 _ (List.mem_of_getElem? (i := 11) rfl)), (hw.1 _ (List.mem_of_getElem? (i := 12) rfl)), rfl, rfl, ⟨by decide +kernel, by decide +kernel, by decide +kernel⟩, Nat.le_of_ble_eq_true rfl, Or.inl (hw.1 _ (List.mem_of_getElem? (i := 13) rfl))⟩ rfl (Nat.le_of_ble_eq_true rfl) EV2 (gc_okc (Or.inl (by rw [ln1]; exact Nat.lt_add_of_pos_right (by decide))) (gc_okc (Or.inl (by rw [ln1]; exact Nat.lt_of_lt_of_le h20p (Nat.add_le_add_left (by decide) p))) gc_ok0)) (gc_oks (Or.inl (by rw [ln1]; exact Nat.add_lt_add_left (by decide) p)) (gc_oks (Or.inl (by rw [ln1]; exact Nat.lt_add_of_pos_right (by decide))) gc_ok0)) ?_
  refine gv_lift (fun hk => gv_put hD rfl rfl S3_p ⟨by decide, (Nat.lt_of_lt_of_le (show p < p + 25 from Nat.lt_add_of_pos_right (by decide)) hB)⟩ rfl trivial hk) ?_
  rw [gc_hUA S3_p rfl]
  exact gv_Yend ⟨rfl, rfl, rfl⟩
theorem mt_5 {ws0 : List Cond} {tb : String → gz_T} (hw : gc_Wn ws0) (hws : gc_Ws ws0) (htb : gc_tbs tb) (d : Nat) {sh : gz_Sh} {I : gr_I} {J : gr_J} {A : gc_A} {p : Nat} (hl0 : sh.length = p + 9) (hB : p + 25 ≤ 1000000) (hs : sh[p]? = some (false, 11, 16)) (h20p : 20 < p + 1) (hok : gc_OK sh I J A) : gv_Y (gc_Ei11 ws0 tb (d + 2) (yX11_init, cX11_init, 2, none) kX11_init) (fun v a s => v = (67, [(0, .inr (.inr (some p))), (1, .inr (.inr (some 20)))], [], (sh ++ [(true, 1, 16)]), gc_h (sh ++ [(true, 1, 16)]) I J (gc_u A p 5 (some (p + 9)))) ∧ a = 1 ∧ s = 16) (59, [(0, .inr (.inr (some p))), (1, .inr (.inr (some 20)))], [], sh, gc_h sh I J A) ∧ gc_OK (sh ++ [(true, 1, 16)]) I J (gc_u A p 5 (some (p + 9))) := by
  have ok1 := gc_OKx (x := (true, 1, 16)) hok (fun k => Nat.le_of_ble_eq_true rfl)
  have ln1 : (sh ++ [(true, 1, 16)]).length = p + 10 := gc_len1 hl0
  have S1_p := gc_gx (x := (true, 1, 16)) hs
  have S1_p9 := gc_gl (x := (true, 1, 16)) (p := (p + 9)) (by rw [hl0])
  have ok2 := gc_OKu (k := 5) (q := (p + 9)) ok1 S1_p rfl (by rw [ln1]; exact Nat.add_lt_add_left (by decide) p)
  refine ⟨?_, ok2⟩
  have hD : gv_D (gc_Ei11 ws0 tb (d + 2) (yX11_init, cX11_init, 2, none) kX11_init) := gq_of oX11_init
  refine gv_lift (fun hk => gv_run 2 true hD (pcₚ := 62) (lvₚ := [(0, .inr (.inr (some p))), (1, .inr (.inr (some 20)))]) (stₚ := [.inl 16, .inr (.inr (some p))]) (hₚ := gc_h sh I J A) (C := ((True ∧ True) ∧ True)) rfl ⟨⟨trivial, trivial⟩, trivial⟩ hk) ?_
  show gv_Y _ _ (_, _, .inl ((16 : Nat) : Int) :: _, _, _)
  refine gc_Yarr hD (at_ := .int) (t := 1) (n := 16) (r := (p + 9)) rfl rfl (hw.1 _ (List.mem_of_getElem? (i := 3) rfl)) (Nat.le_of_ble_eq_true rfl) (Nat.le_of_ble_eq_true rfl) (by rw [hl0]; exact Nat.lt_of_lt_of_le (show p + 9 < p + 25 from Nat.add_lt_add_left (by decide) p) hB) hok (gc_okc (Or.inl (by rw [hl0]; exact Nat.lt_add_of_pos_right (by decide))) (gc_okc (Or.inl (by rw [hl0]; exact Nat.lt_of_lt_of_le h20p (Nat.add_le_add_left (by decide) p))) gc_ok0)) (gc_oks (Or.inl (by rw [hl0]; exact Nat.lt_add_of_pos_right (by decide))) gc_ok0) (by rw [hl0]) ?_
  refine gv_lift (fun hk => gv_put hD rfl rfl S1_p ⟨by decide, (Nat.lt_of_lt_of_le (show p < p + 25 from Nat.lt_add_of_pos_right (by decide)) hB)⟩ rfl trivial hk) ?_
  rw [gc_hUA S1_p rfl]
  exact gv_Yend ⟨rfl, rfl, rfl⟩
theorem mt_6 {ws0 : List Cond} {tb : String → gz_T} (hw : gc_Wn ws0) (hws : gc_Ws ws0) (htb : gc_tbs tb) (d : Nat) {sh : gz_Sh} {I : gr_I} {J : gr_J} {A : gc_A} {p : Nat} (hl0 : sh.length = p + 10) (hB : p + 25 ≤ 1000000) (hs : sh[p]? = some (false, 11, 16)) (h20p : 20 < p + 1) (hok : gc_OK sh I J A) : gv_Y (gc_Ei11 ws0 tb (d + 2) (yX11_init, cX11_init, 2, none) kX11_init) (fun v a s => v = (76, [(0, .inr (.inr (some p))), (1, .inr (.inr (some 20)))], [], (sh ++ [(true, 1, 600)]), gc_h (sh ++ [(true, 1, 600)]) I J (gc_u A p 7 (some (p + 10)))) ∧ a = 1 ∧ s = 600) (67, [(0, .inr (.inr (some p))), (1, .inr (.inr (some 20)))], [], sh, gc_h sh I J A) ∧ gc_OK (sh ++ [(true, 1, 600)]) I J (gc_u A p 7 (some (p + 10))) := by
  have ok1 := gc_OKx (x := (true, 1, 600)) hok (fun k => Nat.le_of_ble_eq_true rfl)
  have ln1 : (sh ++ [(true, 1, 600)]).length = p + 11 := gc_len1 hl0
  have S1_p := gc_gx (x := (true, 1, 600)) hs
  have S1_p10 := gc_gl (x := (true, 1, 600)) (p := (p + 10)) (by rw [hl0])
  have ok2 := gc_OKu (k := 7) (q := (p + 10)) ok1 S1_p rfl (by rw [ln1]; exact Nat.add_lt_add_left (by decide) p)
  refine ⟨?_, ok2⟩
  have hD : gv_D (gc_Ei11 ws0 tb (d + 2) (yX11_init, cX11_init, 2, none) kX11_init) := gq_of oX11_init
  refine gv_lift (fun hk => gv_run 2 true hD (pcₚ := 71) (lvₚ := [(0, .inr (.inr (some p))), (1, .inr (.inr (some 20)))]) (stₚ := [.inl 600, .inr (.inr (some p))]) (hₚ := gc_h sh I J A) (C := ((True ∧ True) ∧ True)) rfl ⟨⟨trivial, trivial⟩, trivial⟩ hk) ?_
  show gv_Y _ _ (_, _, .inl ((600 : Nat) : Int) :: _, _, _)
  refine gc_Yarr hD (at_ := .int) (t := 1) (n := 600) (r := (p + 10)) rfl rfl (hw.1 _ (List.mem_of_getElem? (i := 3) rfl)) (Nat.le_of_ble_eq_true rfl) (Nat.le_of_ble_eq_true rfl) (by rw [hl0]; exact Nat.lt_of_lt_of_le (show p + 10 < p + 25 from Nat.add_lt_add_left (by decide) p) hB) hok (gc_okc (Or.inl (by rw [hl0]; exact Nat.lt_add_of_pos_right (by decide))) (gc_okc (Or.inl (by rw [hl0]; exact Nat.lt_of_lt_of_le h20p (Nat.add_le_add_left (by decide) p))) gc_ok0)) (gc_oks (Or.inl (by rw [hl0]; exact Nat.lt_add_of_pos_right (by decide))) gc_ok0) (by rw [hl0]) ?_
  refine gv_lift (fun hk => gv_put hD rfl rfl S1_p ⟨by decide, (Nat.lt_of_lt_of_le (show p < p + 25 from Nat.lt_add_of_pos_right (by decide)) hB)⟩ rfl trivial hk) ?_
  rw [gc_hUA S1_p rfl]
  exact gv_Yend ⟨rfl, rfl, rfl⟩
theorem mt_7 {ws0 : List Cond} {tb : String → gz_T} (hw : gc_Wn ws0) (hws : gc_Ws ws0) (htb : gc_tbs tb) (d : Nat) {sh : gz_Sh} {I : gr_I} {J : gr_J} {A : gc_A} {p : Nat} (hl0 : sh.length = p + 11) (hB : p + 25 ≤ 1000000) (hs : sh[p]? = some (false, 11, 16)) (h20p : 20 < p + 1) (hok : gc_OK sh I J A) : gv_Y (gc_Ei11 ws0 tb (d + 2) (yX11_init, cX11_init, 2, none) kX11_init) (fun v a s => v = (89, [(0, .inr (.inr (some p))), (1, .inr (.inr (some 20)))], [], ((sh ++ [(false, 4, 2)]) ++ [(true, 2, 24)]), gc_h ((sh ++ [(false, 4, 2)]) ++ [(true, 2, 24)]) I J (gc_u (gc_u A (p + 11) 0 (some ((p + 11) + 1))) p 8 (some (p + 11)))) ∧ a = 2 ∧ s = 26) (76, [(0, .inr (.inr (some p))), (1, .inr (.inr (some 20)))], [], sh, gc_h sh I J A) ∧ gc_OK ((sh ++ [(false, 4, 2)]) ++ [(true, 2, 24)]) I J (gc_u (gc_u A (p + 11) 0 (some ((p + 11) + 1))) p 8 (some (p + 11))) := by
  have ok1 := gc_OKx (x := (false, 4, 2)) hok (gc_nth2 (l := gc_nl gc_ts 4) rfl)
  have ln1 : (sh ++ [(false, 4, 2)]).length = p + 12 := gc_len1 hl0
  have S1_p := gc_gx (x := (false, 4, 2)) hs
  have S1_p11 := gc_gl (x := (false, 4, 2)) (p := (p + 11)) (by rw [hl0])
  have EV2 := m_X4_init hw hws htb (d + 1) (n := 24) (p := (p + 11)) (J := J) (Nat.le_of_ble_eq_true rfl) (by rw [ln1]) (Nat.le_trans (show p + 13 ≤ p + 25 from Nat.add_le_add_left (by decide) p) hB) S1_p11 ok1
  have ok3 := mo_X4_init hw hws htb (d + 1) (n := 24) (p := (p + 11)) (J := J) (Nat.le_of_ble_eq_true rfl) (by rw [ln1]) (Nat.le_trans (show p + 13 ≤ p + 25 from Nat.add_le_add_left (by decide) p) hB) S1_p11 ok1
  have ln3 : ((sh ++ [(false, 4, 2)]) ++ [(true, 2, 24)]).length = p + 13 := gc_len1 ln1
  have S3_p := gc_gx (x := (true, 2, 24)) S1_p
  have S3_p12 := gc_gl (x := (true, 2, 24)) (p := (p + 12)) (by rw [ln1])
  have ok4 := gc_OKu (k := 8) (q := (p + 11)) ok3 S3_p rfl (by rw [ln3]; exact Nat.add_lt_add_left (by decide) p)
  refine ⟨?_, ok4⟩
  have hD : gv_D (gc_Ei11 ws0 tb (d + 2) (yX11_init, cX11_init, 2, none) kX11_init) := gq_of oX11_init
  refine gv_lift (fun hk => gv_run 1 true hD (pcₚ := 77) (lvₚ := [(0, .inr (.inr (some p))), (1, .inr (.inr (some 20)))]) (stₚ := [.inr (.inr (some p))]) (hₚ := gc_h sh I J A) (C := (True ∧ True)) rfl ⟨trivial, trivial⟩ hk) ?_
  refine gc_Ynew hD (ix := 9) (ci := 4) (n := 2) (r := (p + 11)) (C := RX4) (T := TX4) (ty := tyX4) rfl rfl (gc_lN4 hw (hw.1 _ (List.mem_of_getElem? (i := 9) rfl))) (by rw [hl0]; exact Nat.lt_of_lt_of_le (show p + 11 < p + 25 from Nat.add_lt_add_left (by decide) p) hB) hok (gc_okc (Or.inl (by rw [hl0]; exact Nat.lt_add_of_pos_right (by decide))) (gc_okc (Or.inl (by rw [hl0]; exact Nat.lt_of_lt_of_le h20p (Nat.add_le_add_left (by decide) p))) gc_ok0)) (gc_oks (Or.inl (by rw [hl0]; exact Nat.lt_add_of_pos_right (by decide))) gc_ok0) gc_dy4 (by rw [hl0]) ?_
  refine gv_lift (fun hk => gv_run 2 true hD (pcₚ := 83) (lvₚ := [(0, .inr (.inr (some p))), (1, .inr (.inr (some 20)))]) (stₚ := [.inl 24, .inr (.inr (some (p + 11))), .inr (.inr (some (p + 11))), .inr (.inr (some p))]) (hₚ := gc_h (sh ++ [(false, 4, 2)]) I J A) (C := ((True ∧ True) ∧ True)) rfl ⟨⟨trivial, trivial⟩, trivial⟩ hk) ?_
  refine gc_Yspec hD (ix := 11) (M := (yX4_init, cX4_init, 2, none)) (As := [.inl ((24 : Nat) : Int)]) (b := (p + 11)) (st := [.inr (.inr (some (p + 11))), .inr (.inr (some p))]) rfl ⟨(hw.1 _ (List.mem_of_getElem? (i := 10) rfl)), (hw.1 _ (List.mem_of_getElem? (i := 11) rfl)), (hw.1 _ (List.mem_of_getElem? (i := 12) rfl)), rfl, rfl, ⟨by decide +kernel, by decide +kernel, by decide +kernel⟩, Nat.le_of_ble_eq_true rfl, Or.inl (hw.1 _ (List.mem_of_getElem? (i := 13) rfl))⟩ rfl (Nat.le_of_ble_eq_true rfl) EV2 (gc_okc (Or.inl (by rw [ln1]; exact Nat.lt_add_of_pos_right (by decide))) (gc_okc (Or.inl (by rw [ln1]; exact Nat.lt_of_lt_of_le h20p (Nat.add_le_add_left (by decide) p))) gc_ok0)) (gc_oks (Or.inl (by rw [ln1]; exact Nat.add_lt_add_left (by decide) p)) (gc_oks (Or.inl (by rw [ln1]; exact Nat.lt_add_of_pos_right (by decide))) gc_ok0)) ?_
  refine gv_lift (fun hk => gv_put hD rfl rfl S3_p ⟨by decide, (Nat.lt_of_lt_of_le (show p < p + 25 from Nat.lt_add_of_pos_right (by decide)) hB)⟩ rfl trivial hk) ?_
  rw [gc_hUA S3_p rfl]
  exact gv_Yend ⟨rfl, rfl, rfl⟩
theorem mt_8 {ws0 : List Cond} {tb : String → gz_T} (hw : gc_Wn ws0) (hws : gc_Ws ws0) (htb : gc_tbs tb) (d : Nat) {sh : gz_Sh} {I : gr_I} {J : gr_J} {A : gc_A} {p : Nat} (hl0 : sh.length = p + 13) (hB : p + 25 ≤ 1000000) (hs : sh[p]? = some (false, 11, 16)) (h20p : 20 < p + 1) (hok : gc_OK sh I J A) : gv_Y (gc_Ei11 ws0 tb (d + 2) (yX11_init, cX11_init, 2, none) kX11_init) (fun v a s => v = (97, [(0, .inr (.inr (some p))), (1, .inr (.inr (some 20)))], [], (sh ++ [(true, 1, 24)]), gc_h (sh ++ [(true, 1, 24)]) I J (gc_u A p 9 (some (p + 13)))) ∧ a = 1 ∧ s = 24) (89, [(0, .inr (.inr (some p))), (1, .inr (.inr (some 20)))], [], sh, gc_h sh I J A) ∧ gc_OK (sh ++ [(true, 1, 24)]) I J (gc_u A p 9 (some (p + 13))) := by
  have ok1 := gc_OKx (x := (true, 1, 24)) hok (fun k => Nat.le_of_ble_eq_true rfl)
  have ln1 : (sh ++ [(true, 1, 24)]).length = p + 14 := gc_len1 hl0
  have S1_p := gc_gx (x := (true, 1, 24)) hs
  have S1_p13 := gc_gl (x := (true, 1, 24)) (p := (p + 13)) (by rw [hl0])
  have ok2 := gc_OKu (k := 9) (q := (p + 13)) ok1 S1_p rfl (by rw [ln1]; exact Nat.add_lt_add_left (by decide) p)
  refine ⟨?_, ok2⟩
  have hD : gv_D (gc_Ei11 ws0 tb (d + 2) (yX11_init, cX11_init, 2, none) kX11_init) := gq_of oX11_init
  refine gv_lift (fun hk => gv_run 2 true hD (pcₚ := 92) (lvₚ := [(0, .inr (.inr (some p))), (1, .inr (.inr (some 20)))]) (stₚ := [.inl 24, .inr (.inr (some p))]) (hₚ := gc_h sh I J A) (C := ((True ∧ True) ∧ True)) rfl ⟨⟨trivial, trivial⟩, trivial⟩ hk) ?_
  show gv_Y _ _ (_, _, .inl ((24 : Nat) : Int) :: _, _, _)
  refine gc_Yarr hD (at_ := .int) (t := 1) (n := 24) (r := (p + 13)) rfl rfl (hw.1 _ (List.mem_of_getElem? (i := 3) rfl)) (Nat.le_of_ble_eq_true rfl) (Nat.le_of_ble_eq_true rfl) (by rw [hl0]; exact Nat.lt_of_lt_of_le (show p + 13 < p + 25 from Nat.add_lt_add_left (by decide) p) hB) hok (gc_okc (Or.inl (by rw [hl0]; exact Nat.lt_add_of_pos_right (by decide))) (gc_okc (Or.inl (by rw [hl0]; exact Nat.lt_of_lt_of_le h20p (Nat.add_le_add_left (by decide) p))) gc_ok0)) (gc_oks (Or.inl (by rw [hl0]; exact Nat.lt_add_of_pos_right (by decide))) gc_ok0) (by rw [hl0]) ?_
  refine gv_lift (fun hk => gv_put hD rfl rfl S1_p ⟨by decide, (Nat.lt_of_lt_of_le (show p < p + 25 from Nat.lt_add_of_pos_right (by decide)) hB)⟩ rfl trivial hk) ?_
  rw [gc_hUA S1_p rfl]
  exact gv_Yend ⟨rfl, rfl, rfl⟩
theorem mt_9 {ws0 : List Cond} {tb : String → gz_T} (hw : gc_Wn ws0) (hws : gc_Ws ws0) (htb : gc_tbs tb) (d : Nat) {sh : gz_Sh} {I : gr_I} {J : gr_J} {A : gc_A} {p : Nat} (hl0 : sh.length = p + 14) (hB : p + 25 ≤ 1000000) (hs : sh[p]? = some (false, 11, 16)) (h20p : 20 < p + 1) (hok : gc_OK sh I J A) : gv_Y (gc_Ei11 ws0 tb (d + 2) (yX11_init, cX11_init, 2, none) kX11_init) (fun v a s => v = (106, [(0, .inr (.inr (some p))), (1, .inr (.inr (some 20)))], [], (sh ++ [(true, 1, 1728)]), gc_h (sh ++ [(true, 1, 1728)]) I J (gc_u A p 10 (some (p + 14)))) ∧ a = 1 ∧ s = 1728) (97, [(0, .inr (.inr (some p))), (1, .inr (.inr (some 20)))], [], sh, gc_h sh I J A) ∧ gc_OK (sh ++ [(true, 1, 1728)]) I J (gc_u A p 10 (some (p + 14))) := by
  have ok1 := gc_OKx (x := (true, 1, 1728)) hok (fun k => Nat.le_of_ble_eq_true rfl)
  have ln1 : (sh ++ [(true, 1, 1728)]).length = p + 15 := gc_len1 hl0
  have S1_p := gc_gx (x := (true, 1, 1728)) hs
  have S1_p14 := gc_gl (x := (true, 1, 1728)) (p := (p + 14)) (by rw [hl0])
  have ok2 := gc_OKu (k := 10) (q := (p + 14)) ok1 S1_p rfl (by rw [ln1]; exact Nat.add_lt_add_left (by decide) p)
  refine ⟨?_, ok2⟩
  have hD : gv_D (gc_Ei11 ws0 tb (d + 2) (yX11_init, cX11_init, 2, none) kX11_init) := gq_of oX11_init
  refine gv_lift (fun hk => gv_run 2 true hD (pcₚ := 101) (lvₚ := [(0, .inr (.inr (some p))), (1, .inr (.inr (some 20)))]) (stₚ := [.inl 1728, .inr (.inr (some p))]) (hₚ := gc_h sh I J A) (C := ((True ∧ True) ∧ True)) rfl ⟨⟨trivial, trivial⟩, trivial⟩ hk) ?_
  show gv_Y _ _ (_, _, .inl ((1728 : Nat) : Int) :: _, _, _)
  refine gc_Yarr hD (at_ := .int) (t := 1) (n := 1728) (r := (p + 14)) rfl rfl (hw.1 _ (List.mem_of_getElem? (i := 3) rfl)) (Nat.le_of_ble_eq_true rfl) (Nat.le_of_ble_eq_true rfl) (by rw [hl0]; exact Nat.lt_of_lt_of_le (show p + 14 < p + 25 from Nat.add_lt_add_left (by decide) p) hB) hok (gc_okc (Or.inl (by rw [hl0]; exact Nat.lt_add_of_pos_right (by decide))) (gc_okc (Or.inl (by rw [hl0]; exact Nat.lt_of_lt_of_le h20p (Nat.add_le_add_left (by decide) p))) gc_ok0)) (gc_oks (Or.inl (by rw [hl0]; exact Nat.lt_add_of_pos_right (by decide))) gc_ok0) (by rw [hl0]) ?_
  refine gv_lift (fun hk => gv_put hD rfl rfl S1_p ⟨by decide, (Nat.lt_of_lt_of_le (show p < p + 25 from Nat.lt_add_of_pos_right (by decide)) hB)⟩ rfl trivial hk) ?_
  rw [gc_hUA S1_p rfl]
  exact gv_Yend ⟨rfl, rfl, rfl⟩
theorem mt_10 {ws0 : List Cond} {tb : String → gz_T} (hw : gc_Wn ws0) (hws : gc_Ws ws0) (htb : gc_tbs tb) (d : Nat) {sh : gz_Sh} {I : gr_I} {J : gr_J} {A : gc_A} {p : Nat} (hl0 : sh.length = p + 15) (hB : p + 25 ≤ 1000000) (hs : sh[p]? = some (false, 11, 16)) (h20p : 20 < p + 1) (hok : gc_OK sh I J A) : gv_Y (gc_Ei11 ws0 tb (d + 2) (yX11_init, cX11_init, 2, none) kX11_init) (fun v a s => v = (115, [(0, .inr (.inr (some p))), (1, .inr (.inr (some 20)))], [], (sh ++ [(true, 1, 704)]), gc_h (sh ++ [(true, 1, 704)]) I J (gc_u A p 12 (some (p + 15)))) ∧ a = 1 ∧ s = 704) (106, [(0, .inr (.inr (some p))), (1, .inr (.inr (some 20)))], [], sh, gc_h sh I J A) ∧ gc_OK (sh ++ [(true, 1, 704)]) I J (gc_u A p 12 (some (p + 15))) := by
  have ok1 := gc_OKx (x := (true, 1, 704)) hok (fun k => Nat.le_of_ble_eq_true rfl)
  have ln1 : (sh ++ [(true, 1, 704)]).length = p + 16 := gc_len1 hl0
  have S1_p := gc_gx (x := (true, 1, 704)) hs
  have S1_p15 := gc_gl (x := (true, 1, 704)) (p := (p + 15)) (by rw [hl0])
  have ok2 := gc_OKu (k := 12) (q := (p + 15)) ok1 S1_p rfl (by rw [ln1]; exact Nat.add_lt_add_left (by decide) p)
  refine ⟨?_, ok2⟩
  have hD : gv_D (gc_Ei11 ws0 tb (d + 2) (yX11_init, cX11_init, 2, none) kX11_init) := gq_of oX11_init
  refine gv_lift (fun hk => gv_run 2 true hD (pcₚ := 110) (lvₚ := [(0, .inr (.inr (some p))), (1, .inr (.inr (some 20)))]) (stₚ := [.inl 704, .inr (.inr (some p))]) (hₚ := gc_h sh I J A) (C := ((True ∧ True) ∧ True)) rfl ⟨⟨trivial, trivial⟩, trivial⟩ hk) ?_
  show gv_Y _ _ (_, _, .inl ((704 : Nat) : Int) :: _, _, _)
  refine gc_Yarr hD (at_ := .int) (t := 1) (n := 704) (r := (p + 15)) rfl rfl (hw.1 _ (List.mem_of_getElem? (i := 3) rfl)) (Nat.le_of_ble_eq_true rfl) (Nat.le_of_ble_eq_true rfl) (by rw [hl0]; exact Nat.lt_of_lt_of_le (show p + 15 < p + 25 from Nat.add_lt_add_left (by decide) p) hB) hok (gc_okc (Or.inl (by rw [hl0]; exact Nat.lt_add_of_pos_right (by decide))) (gc_okc (Or.inl (by rw [hl0]; exact Nat.lt_of_lt_of_le h20p (Nat.add_le_add_left (by decide) p))) gc_ok0)) (gc_oks (Or.inl (by rw [hl0]; exact Nat.lt_add_of_pos_right (by decide))) gc_ok0) (by rw [hl0]) ?_
  refine gv_lift (fun hk => gv_put hD rfl rfl S1_p ⟨by decide, (Nat.lt_of_lt_of_le (show p < p + 25 from Nat.lt_add_of_pos_right (by decide)) hB)⟩ rfl trivial hk) ?_
  rw [gc_hUA S1_p rfl]
  exact gv_Yend ⟨rfl, rfl, rfl⟩
theorem mt_11 {ws0 : List Cond} {tb : String → gz_T} (hw : gc_Wn ws0) (hws : gc_Ws ws0) (htb : gc_tbs tb) (d : Nat) {sh : gz_Sh} {I : gr_I} {J : gr_J} {A : gc_A} {p : Nat} (hl0 : sh.length = p + 16) (hB : p + 25 ≤ 1000000) (hs : sh[p]? = some (false, 11, 16)) (h20p : 20 < p + 1) (hok : gc_OK sh I J A) : gv_Y (gc_Ei11 ws0 tb (d + 2) (yX11_init, cX11_init, 2, none) kX11_init) (fun v a s => v = (125, [(0, .inr (.inr (some p))), (1, .inr (.inr (some 20)))], [], (sh ++ [(true, 4, 384)]), gc_h (sh ++ [(true, 4, 384)]) I J (gc_u A p 14 (some (p + 16)))) ∧ a = 1 ∧ s = 384) (115, [(0, .inr (.inr (some p))), (1, .inr (.inr (some 20)))], [], sh, gc_h sh I J A) ∧ gc_OK (sh ++ [(true, 4, 384)]) I J (gc_u A p 14 (some (p + 16))) := by
  have ok1 := gc_OKx (x := (true, 4, 384)) hok (fun k => Nat.le_of_ble_eq_true rfl)
  have ln1 : (sh ++ [(true, 4, 384)]).length = p + 17 := gc_len1 hl0
  have S1_p := gc_gx (x := (true, 4, 384)) hs
  have S1_p16 := gc_gl (x := (true, 4, 384)) (p := (p + 16)) (by rw [hl0])
  have ok2 := gc_OKu (k := 14) (q := (p + 16)) ok1 S1_p rfl (by rw [ln1]; exact Nat.add_lt_add_left (by decide) p)
  refine ⟨?_, ok2⟩
  have hD : gv_D (gc_Ei11 ws0 tb (d + 2) (yX11_init, cX11_init, 2, none) kX11_init) := gq_of oX11_init
  refine gv_lift (fun hk => gv_run 2 true hD (pcₚ := 119) (lvₚ := [(0, .inr (.inr (some p))), (1, .inr (.inr (some 20)))]) (stₚ := [.inl 384, .inr (.inr (some p))]) (hₚ := gc_h sh I J A) (C := ((True ∧ True) ∧ True)) rfl ⟨⟨trivial, trivial⟩, trivial⟩ hk) ?_
  show gv_Y _ _ (_, _, .inl ((384 : Nat) : Int) :: _, _, _)
  refine gc_Yaar hD (ix := 51) (t := 4) (n := 384) (r := (p + 16)) (C := RX3) rfl (Or.inl ⟨rfl, rfl⟩) (hw.1 _ (List.mem_of_getElem? (i := 14) rfl)) (Nat.le_of_ble_eq_true rfl) (by rw [hl0]; exact Nat.lt_of_lt_of_le (show p + 16 < p + 25 from Nat.add_lt_add_left (by decide) p) hB) hok (gc_okc (Or.inl (by rw [hl0]; exact Nat.lt_add_of_pos_right (by decide))) (gc_okc (Or.inl (by rw [hl0]; exact Nat.lt_of_lt_of_le h20p (Nat.add_le_add_left (by decide) p))) gc_ok0)) (gc_oks (Or.inl (by rw [hl0]; exact Nat.lt_add_of_pos_right (by decide))) gc_ok0) (by rw [hl0]) ?_
  refine gv_lift (fun hk => gv_put hD rfl rfl S1_p ⟨by decide, (Nat.lt_of_lt_of_le (show p < p + 25 from Nat.lt_add_of_pos_right (by decide)) hB)⟩ rfl trivial hk) ?_
  rw [gc_hUA S1_p rfl]
  exact gv_Yend ⟨rfl, rfl, rfl⟩
set_option maxHeartbeats 2000000 in
theorem mt_12 {ws0 : List Cond} {tb : String → gz_T} (hw : gc_Wn ws0) (hws : gc_Ws ws0) (htb : gc_tbs tb) (d : Nat) {sh : gz_Sh} {I : gr_I} {J : gr_J} {A : gc_A} {p : Nat} {ro : Nat → Nat} (hI : gc_Inv ro I) (hrF : ro (p + 17) = 24) (hrH : ro (p + 17 + 4) = 34) (hl0 : sh.length = p + 17) (hB : p + 25 ≤ 1000000) (hs : sh[p]? = some (false, 11, 16)) (h20p : 20 < p + 1) (hok : gc_OK sh I J A) : ∃ I9 : gr_I, gv_Y (gc_Ei11 ws0 tb (d + 2) (yX11_init, cX11_init, 2, none) kX11_init) (fun v a s => v = (137, [(0, .inr (.inr (some p))), (1, .inr (.inr (some 20)))], [], ((((((((sh ++ [(false, 2, 10)]) ++ [(true, 0, 36864)]) ++ [(true, 1, 1536)]) ++ [(true, 1, 1536)]) ++ [(true, 1, 512)]) ++ [(true, 1, 1536)]) ++ [(true, 0, 24)]) ++ [(true, 0, 24)]), gc_h ((((((((sh ++ [(false, 2, 10)]) ++ [(true, 0, 36864)]) ++ [(true, 1, 1536)]) ++ [(true, 1, 1536)]) ++ [(true, 1, 512)]) ++ [(true, 1, 1536)]) ++ [(true, 0, 24)]) ++ [(true, 0, 24)]) I9 J (gc_u (gc_u (gc_u (gc_u (gc_u (gc_u (gc_u A (p + 17) 1 (some ((p + 17) + 1))) (p + 17) 2 (some ((p + 17) + 2))) (p + 17) 3 (some ((p + 17) + 3))) (p + 17) 4 (some ((p + 17) + 4))) (p + 17) 5 (some ((p + 17) + 5))) (p + 17) 0 (some 20)) p 15 (some (p + 17)))) ∧ a = 8 ∧ s = 42042) (125, [(0, .inr (.inr (some p))), (1, .inr (.inr (some 20)))], [], sh, gc_h sh I J A) ∧ gc_Inv ro I9 ∧ (∀ q j : Nat, ((q = p + 17 ∧ j = 7) ∨ q = p + 17 + 4) ∨ I9 q j = I q j) ∧ (I9 (p + 17) 7 = 1 ∧ ∀ j, j < 512 → I9 (p + 17 + 4) j = -1) ∧ gc_OK ((((((((sh ++ [(false, 2, 10)]) ++ [(true, 0, 36864)]) ++ [(true, 1, 1536)]) ++ [(true, 1, 1536)]) ++ [(true, 1, 512)]) ++ [(true, 1, 1536)]) ++ [(true, 0, 24)]) ++ [(true, 0, 24)]) I9 J (gc_u (gc_u (gc_u (gc_u (gc_u (gc_u (gc_u A (p + 17) 1 (some ((p + 17) + 1))) (p + 17) 2 (some ((p + 17) + 2))) (p + 17) 3 (some ((p + 17) + 3))) (p + 17) 4 (some ((p + 17) + 4))) (p + 17) 5 (some ((p + 17) + 5))) (p + 17) 0 (some 20)) p 15 (some (p + 17))) := by
  have ok1 := (by have h9 := gc_OKN hok; rw [hl0] at h9; exact h9)
  have ln1 : (sh ++ [(false, 2, 10)]).length = p + 18 := gc_len1 hl0
  have S1_p := gc_gx (x := (false, 2, 10)) hs
  have S1_p17 := gc_gl (x := (false, 2, 10)) (p := (p + 17)) (by rw [hl0])
  obtain ⟨I9, EF, hI9, gF, qF, qG, okF⟩ := m_X2_init hw hws htb (d + 0) (J := J) (p := (p + 17)) (ro := ro) hI hrF hrH (by rw [ln1]) (Nat.le_trans (show p + 25 ≤ p + 25 from Nat.add_le_add_left (by decide) p) hB) S1_p17 (by rw [ln1]; exact Nat.lt_of_lt_of_le h20p (Nat.add_le_add_left (by decide) p)) ((hok.2 (p + 17) (by rw [hl0]; exact Nat.add_le_add_left (by decide) p) 6).1) ok1
  have ln3 : ((sh ++ [(false, 2, 10)]) ++ [(true, 0, 36864)]).length = p + 19 := gc_len1 ln1
  have S3_p := gc_gx (x := (true, 0, 36864)) S1_p
  have S3_p18 := gc_gl (x := (true, 0, 36864)) (p := (p + 18)) (by rw [ln1])
  have ln4 : (((sh ++ [(false, 2, 10)]) ++ [(true, 0, 36864)]) ++ [(true, 1, 1536)]).length = p + 20 := gc_len1 ln3
  have S4_p := gc_gx (x := (true, 1, 1536)) S3_p
  have S4_p19 := gc_gl (x := (true, 1, 1536)) (p := (p + 19)) (by rw [ln3])
  have ln5 : ((((sh ++ [(false, 2, 10)]) ++ [(true, 0, 36864)]) ++ [(true, 1, 1536)]) ++ [(true, 1, 1536)]).length = p + 21 := gc_len1 ln4
  have S5_p := gc_gx (x := (true, 1, 1536)) S4_p
  have S5_p20 := gc_gl (x := (true, 1, 1536)) (p := (p + 20)) (by rw [ln4])
  have ln6 : (((((sh ++ [(false, 2, 10)]) ++ [(true, 0, 36864)]) ++ [(true, 1, 1536)]) ++ [(true, 1, 1536)]) ++ [(true, 1, 512)]).length = p + 22 := gc_len1 ln5
  have S6_p := gc_gx (x := (true, 1, 512)) S5_p
  have S6_p21 := gc_gl (x := (true, 1, 512)) (p := (p + 21)) (by rw [ln5])
  have ln7 : ((((((sh ++ [(false, 2, 10)]) ++ [(true, 0, 36864)]) ++ [(true, 1, 1536)]) ++ [(true, 1, 1536)]) ++ [(true, 1, 512)]) ++ [(true, 1, 1536)]).length = p + 23 := gc_len1 ln6
  have S7_p := gc_gx (x := (true, 1, 1536)) S6_p
  have S7_p22 := gc_gl (x := (true, 1, 1536)) (p := (p + 22)) (by rw [ln6])
  have ln8 : (((((((sh ++ [(false, 2, 10)]) ++ [(true, 0, 36864)]) ++ [(true, 1, 1536)]) ++ [(true, 1, 1536)]) ++ [(true, 1, 512)]) ++ [(true, 1, 1536)]) ++ [(true, 0, 24)]).length = p + 24 := gc_len1 ln7
  have S8_p := gc_gx (x := (true, 0, 24)) S7_p
  have S8_p23 := gc_gl (x := (true, 0, 24)) (p := (p + 23)) (by rw [ln7])
  have ln9 : ((((((((sh ++ [(false, 2, 10)]) ++ [(true, 0, 36864)]) ++ [(true, 1, 1536)]) ++ [(true, 1, 1536)]) ++ [(true, 1, 512)]) ++ [(true, 1, 1536)]) ++ [(true, 0, 24)]) ++ [(true, 0, 24)]).length = p + 25 := gc_len1 ln8
  have S9_p := gc_gx (x := (true, 0, 24)) S8_p
  have S9_p24 := gc_gl (x := (true, 0, 24)) (p := (p + 24)) (by rw [ln8])
  have ok10 := gc_OKu (k := 15) (q := (p + 17)) okF S9_p rfl (by rw [ln9]; exact Nat.add_lt_add_left (by decide) p)
  refine ⟨I9, ?_, hI9, gF, ⟨qF, qG⟩, ok10⟩
  have hD : gv_D (gc_Ei11 ws0 tb (d + 2) (yX11_init, cX11_init, 2, none) kX11_init) := gq_of oX11_init
  refine gv_lift (fun hk => gv_run 1 true hD (pcₚ := 126) (lvₚ := [(0, .inr (.inr (some p))), (1, .inr (.inr (some 20)))]) (stₚ := [.inr (.inr (some p))]) (hₚ := gc_h sh I J A) (C := (True ∧ True)) rfl ⟨trivial, trivial⟩ hk) ?_
  refine gc_YnewF hD (ix := 57) (r := (p + 17)) rfl (gc_lN2 hw (hw.1 _ (List.mem_of_getElem? (i := 15) rfl))) (by rw [hl0]; exact Nat.lt_of_lt_of_le (show p + 17 < p + 25 from Nat.add_lt_add_left (by decide) p) hB) hok (gc_okc (Or.inl (by rw [hl0]; exact Nat.lt_add_of_pos_right (by decide))) (gc_okc (Or.inl (by rw [hl0]; exact Nat.lt_of_lt_of_le h20p (Nat.add_le_add_left (by decide) p))) gc_ok0)) (gc_oks (Or.inl (by rw [hl0]; exact Nat.lt_add_of_pos_right (by decide))) gc_ok0) (by rw [hl0]) ?_
  refine gv_lift (fun hk => gv_run 2 true hD (pcₚ := 131) (lvₚ := [(0, .inr (.inr (some p))), (1, .inr (.inr (some 20)))]) (stₚ := [.inr (.inr (some 20)), .inr (.inr (some (p + 17))), .inr (.inr (some (p + 17))), .inr (.inr (some p))]) (hₚ := gc_hP gc_nu6 (sh ++ [(false, 2, 10)]) I J A (p + 17)) (C := ((True ∧ True) ∧ True)) rfl ⟨⟨trivial, trivial⟩, trivial⟩ hk) ?_
  refine gc_Yspec hD (ix := 59) (M := (yX2_init, cX2_init, 2, none)) (As := [.inr (.inr (some 20))]) (b := (p + 17)) (st := [.inr (.inr (some (p + 17))), .inr (.inr (some p))]) rfl ⟨(hw.1 _ (List.mem_of_getElem? (i := 16) rfl)), (hw.1 _ (List.mem_of_getElem? (i := 17) rfl)), (hw.1 _ (List.mem_of_getElem? (i := 18) rfl)), rfl, rfl, ⟨by decide +kernel, by decide +kernel, by decide +kernel⟩, Nat.le_of_ble_eq_true rfl, Or.inl (hw.1 _ (List.mem_of_getElem? (i := 19) rfl))⟩ rfl (Nat.le_of_ble_eq_true rfl) EF (gc_okc (Or.inl (by rw [ln1]; exact Nat.lt_add_of_pos_right (by decide))) (gc_okc (Or.inl (by rw [ln1]; exact Nat.lt_of_lt_of_le h20p (Nat.add_le_add_left (by decide) p))) gc_ok0)) (gc_oks (Or.inl (by rw [ln1]; exact Nat.add_lt_add_left (by decide) p)) (gc_oks (Or.inl (by rw [ln1]; exact Nat.lt_add_of_pos_right (by decide))) gc_ok0)) ?_
  refine gv_lift (fun hk => gv_put hD rfl rfl S9_p ⟨by decide, (Nat.lt_of_lt_of_le (show p < p + 25 from Nat.lt_add_of_pos_right (by decide)) hB)⟩ rfl trivial hk) ?_
  rw [gc_hUA S9_p rfl]
  exact gv_Yend ⟨rfl, rfl, rfl⟩
def gc_tS : gz_Sh := [(false, 4, 2), (true, 2, 8), (false, 4, 2), (true, 2, 48), (true, 1, 48), (true, 1, 48), (false, 4, 2), (true, 2, 16), (true, 1, 16), (true, 1, 600), (false, 4, 2), (true, 2, 24), (true, 1, 24), (true, 1, 1728), (true, 1, 704), (true, 4, 384), (false, 2, 10), (true, 0, 36864), (true, 1, 1536), (true, 1, 1536), (true, 1, 512), (true, 1, 1536), (true, 0, 24), (true, 0, 24)]
def gc_tA (A : gc_A) (p : Nat) : gc_A := (gc_u (gc_u (gc_u (gc_u (gc_u (gc_u (gc_u (gc_u (gc_u (gc_u (gc_u (gc_u (gc_u (gc_u (gc_u (gc_u (gc_u (gc_u (gc_u (gc_u (gc_u (gc_u (gc_u A (p + 1) 0 (some ((p + 1) + 1))) p 0 (some (p + 1))) (p + 3) 0 (some ((p + 3) + 1))) p 1 (some (p + 3))) p 2 (some (p + 5))) p 3 (some (p + 6))) (p + 7) 0 (some ((p + 7) + 1))) p 4 (some (p + 7))) p 5 (some (p + 9))) p 7 (some (p + 10))) (p + 11) 0 (some ((p + 11) + 1))) p 8 (some (p + 11))) p 9 (some (p + 13))) p 10 (some (p + 14))) p 12 (some (p + 15))) p 14 (some (p + 16))) (p + 17) 1 (some ((p + 17) + 1))) (p + 17) 2 (some ((p + 17) + 2))) (p + 17) 3 (some ((p + 17) + 3))) (p + 17) 4 (some ((p + 17) + 4))) (p + 17) 5 (some ((p + 17) + 5))) (p + 17) 0 (some 20)) p 15 (some (p + 17)))
set_option maxHeartbeats 4000000 in
theorem m_X11_init0 {ws0 : List Cond} {tb : String → gz_T} (hw : gc_Wn ws0) (hws : gc_Ws ws0) (htb : gc_tbs tb) (d : Nat) {sh : gz_Sh} {I : gr_I} {J : gr_J} {A : gc_A} {p : Nat} {ro : Nat → Nat} (hI : gc_Inv ro I) (hrF : ro (p + 17) = 24) (hrH : ro (p + 17 + 4) = 34) (hl0 : sh.length = p + 1) (hB : p + 25 ≤ 1000000) (hs : sh[p]? = some (false, 11, 16)) (h20p : 20 < p + 1) (hok : gc_OK sh I J A) : ∃ I9 : gr_I, gz_Ev ws0 tb (d + 3) (yX11_init, cX11_init, 2, none) [.inr (.inr (some p)), .inr (.inr (some 20))] sh (gc_h sh I J A) none (sh ++ gc_tS) (gc_h (sh ++ gc_tS) I9 J (gc_u (gc_u (gc_u (gc_u (gc_u (gc_u (gc_u (gc_u (gc_u (gc_u (gc_u (gc_u (gc_u (gc_u (gc_u (gc_u (gc_u (gc_u (gc_u (gc_u (gc_u (gc_u (gc_u A (p + 1) 0 (some ((p + 1) + 1))) p 0 (some (p + 1))) (p + 3) 0 (some ((p + 3) + 1))) p 1 (some (p + 3))) p 2 (some (p + 5))) p 3 (some (p + 6))) (p + 7) 0 (some ((p + 7) + 1))) p 4 (some (p + 7))) p 5 (some (p + 9))) p 7 (some (p + 10))) (p + 11) 0 (some ((p + 11) + 1))) p 8 (some (p + 11))) p 9 (some (p + 13))) p 10 (some (p + 14))) p 12 (some (p + 15))) p 14 (some (p + 16))) (p + 17) 1 (some ((p + 17) + 1))) (p + 17) 2 (some ((p + 17) + 2))) (p + 17) 3 (some ((p + 17) + 3))) (p + 17) 4 (some ((p + 17) + 4))) (p + 17) 5 (some ((p + 17) + 5))) (p + 17) 0 (some 20)) p 15 (some (p + 17)))) 24 45698 ∧ gc_Inv ro I9 ∧ (∀ q j : Nat, ((q = p + 17 ∧ j = 7) ∨ q = p + 17 + 4) ∨ I9 q j = I q j) ∧ (I9 (p + 17) 7 = 1 ∧ ∀ j, j < 512 → I9 (p + 17 + 4) j = -1) ∧ gc_OK (sh ++ gc_tS) I9 J (gc_u (gc_u (gc_u (gc_u (gc_u (gc_u (gc_u (gc_u (gc_u (gc_u (gc_u (gc_u (gc_u (gc_u (gc_u (gc_u (gc_u (gc_u (gc_u (gc_u (gc_u (gc_u (gc_u A (p + 1) 0 (some ((p + 1) + 1))) p 0 (some (p + 1))) (p + 3) 0 (some ((p + 3) + 1))) p 1 (some (p + 3))) p 2 (some (p + 5))) p 3 (some (p + 6))) (p + 7) 0 (some ((p + 7) + 1))) p 4 (some (p + 7))) p 5 (some (p + 9))) p 7 (some (p + 10))) (p + 11) 0 (some ((p + 11) + 1))) p 8 (some (p + 11))) p 9 (some (p + 13))) p 10 (some (p + 14))) p 12 (some (p + 15))) p 14 (some (p + 16))) (p + 17) 1 (some ((p + 17) + 1))) (p + 17) 2 (some ((p + 17) + 2))) (p + 17) 3 (some ((p + 17) + 3))) (p + 17) 4 (some ((p + 17) + 4))) (p + 17) 5 (some ((p + 17) + 5))) (p + 17) 0 (some 20)) p 15 (some (p + 17))) := by
  obtain ⟨Y0, ok0⟩ := mt_0 hw hws htb d (J := J) hl0 hB hs h20p hok
  have ln0 : ((sh ++ [(false, 4, 2)]) ++ [(true, 2, 8)]).length = p + 3 := (gc_len1 (x := (true, 2, 8)) (gc_len1 (x := (false, 4, 2)) hl0))
  have hs0 : ((sh ++ [(false, 4, 2)]) ++ [(true, 2, 8)])[p]? = some (false, 11, 16) := (gc_gx (x := (true, 2, 8)) (gc_gx (x := (false, 4, 2)) hs))
  obtain ⟨Y1, ok1⟩ := mt_1 hw hws htb d (J := J) ln0 hB hs0 h20p ok0
  have ln1 : ((((sh ++ [(false, 4, 2)]) ++ [(true, 2, 8)]) ++ [(false, 4, 2)]) ++ [(true, 2, 48)]).length = p + 5 := (gc_len1 (x := (true, 2, 48)) (gc_len1 (x := (false, 4, 2)) ln0))
  have hs1 : ((((sh ++ [(false, 4, 2)]) ++ [(true, 2, 8)]) ++ [(false, 4, 2)]) ++ [(true, 2, 48)])[p]? = some (false, 11, 16) := (gc_gx (x := (true, 2, 48)) (gc_gx (x := (false, 4, 2)) hs0))
  obtain ⟨Y2, ok2⟩ := mt_2 hw hws htb d (J := J) ln1 hB hs1 h20p ok1
  have ln2 : (((((sh ++ [(false, 4, 2)]) ++ [(true, 2, 8)]) ++ [(false, 4, 2)]) ++ [(true, 2, 48)]) ++ [(true, 1, 48)]).length = p + 6 := (gc_len1 (x := (true, 1, 48)) ln1)
  have hs2 : (((((sh ++ [(false, 4, 2)]) ++ [(true, 2, 8)]) ++ [(false, 4, 2)]) ++ [(true, 2, 48)]) ++ [(true, 1, 48)])[p]? = some (false, 11, 16) := (gc_gx (x := (true, 1, 48)) hs1)
  obtain ⟨Y3, ok3⟩ := mt_3 hw hws htb d (J := J) ln2 hB hs2 h20p ok2
  have ln3 : ((((((sh ++ [(false, 4, 2)]) ++ [(true, 2, 8)]) ++ [(false, 4, 2)]) ++ [(true, 2, 48)]) ++ [(true, 1, 48)]) ++ [(true, 1, 48)]).length = p + 7 := (gc_len1 (x := (true, 1, 48)) ln2)
  have hs3 : ((((((sh ++ [(false, 4, 2)]) ++ [(true, 2, 8)]) ++ [(false, 4, 2)]) ++ [(true, 2, 48)]) ++ [(true, 1, 48)]) ++ [(true, 1, 48)])[p]? = some (false, 11, 16) := (gc_gx (x := (true, 1, 48)) hs2)
  obtain ⟨Y4, ok4⟩ := mt_4 hw hws htb d (J := J) ln3 hB hs3 h20p ok3
  have ln4 : ((((((((sh ++ [(false, 4, 2)]) ++ [(true, 2, 8)]) ++ [(false, 4, 2)]) ++ [(true, 2, 48)]) ++ [(true, 1, 48)]) ++ [(true, 1, 48)]) ++ [(false, 4, 2)]) ++ [(true, 2, 16)]).length = p + 9 := (gc_len1 (x := (true, 2, 16)) (gc_len1 (x := (false, 4, 2)) ln3))
  have hs4 : ((((((((sh ++ [(false, 4, 2)]) ++ [(true, 2, 8)]) ++ [(false, 4, 2)]) ++ [(true, 2, 48)]) ++ [(true, 1, 48)]) ++ [(true, 1, 48)]) ++ [(false, 4, 2)]) ++ [(true, 2, 16)])[p]? = some (false, 11, 16) := (gc_gx (x := (true, 2, 16)) (gc_gx (x := (false, 4, 2)) hs3))
  obtain ⟨Y5, ok5⟩ := mt_5 hw hws htb d (J := J) ln4 hB hs4 h20p ok4
  have ln5 : (((((((((sh ++ [(false, 4, 2)]) ++ [(true, 2, 8)]) ++ [(false, 4, 2)]) ++ [(true, 2, 48)]) ++ [(true, 1, 48)]) ++ [(true, 1, 48)]) ++ [(false, 4, 2)]) ++ [(true, 2, 16)]) ++ [(true, 1, 16)]).length = p + 10 := (gc_len1 (x := (true, 1, 16)) ln4)
  have hs5 : (((((((((sh ++ [(false, 4, 2)]) ++ [(true, 2, 8)]) ++ [(false, 4, 2)]) ++ [(true, 2, 48)]) ++ [(true, 1, 48)]) ++ [(true, 1, 48)]) ++ [(false, 4, 2)]) ++ [(true, 2, 16)]) ++ [(true, 1, 16)])[p]? = some (false, 11, 16) := (gc_gx (x := (true, 1, 16)) hs4)
  obtain ⟨Y6, ok6⟩ := mt_6 hw hws htb d (J := J) ln5 hB hs5 h20p ok5
  have ln6 : ((((((((((sh ++ [(false, 4, 2)]) ++ [(true, 2, 8)]) ++ [(false, 4, 2)]) ++ [(true, 2, 48)]) ++ [(true, 1, 48)]) ++ [(true, 1, 48)]) ++ [(false, 4, 2)]) ++ [(true, 2, 16)]) ++ [(true, 1, 16)]) ++ [(true, 1, 600)]).length = p + 11 := (gc_len1 (x := (true, 1, 600)) ln5)
  have hs6 : ((((((((((sh ++ [(false, 4, 2)]) ++ [(true, 2, 8)]) ++ [(false, 4, 2)]) ++ [(true, 2, 48)]) ++ [(true, 1, 48)]) ++ [(true, 1, 48)]) ++ [(false, 4, 2)]) ++ [(true, 2, 16)]) ++ [(true, 1, 16)]) ++ [(true, 1, 600)])[p]? = some (false, 11, 16) := (gc_gx (x := (true, 1, 600)) hs5)
  obtain ⟨Y7, ok7⟩ := mt_7 hw hws htb d (J := J) ln6 hB hs6 h20p ok6
  have ln7 : ((((((((((((sh ++ [(false, 4, 2)]) ++ [(true, 2, 8)]) ++ [(false, 4, 2)]) ++ [(true, 2, 48)]) ++ [(true, 1, 48)]) ++ [(true, 1, 48)]) ++ [(false, 4, 2)]) ++ [(true, 2, 16)]) ++ [(true, 1, 16)]) ++ [(true, 1, 600)]) ++ [(false, 4, 2)]) ++ [(true, 2, 24)]).length = p + 13 := (gc_len1 (x := (true, 2, 24)) (gc_len1 (x := (false, 4, 2)) ln6))
  have hs7 : ((((((((((((sh ++ [(false, 4, 2)]) ++ [(true, 2, 8)]) ++ [(false, 4, 2)]) ++ [(true, 2, 48)]) ++ [(true, 1, 48)]) ++ [(true, 1, 48)]) ++ [(false, 4, 2)]) ++ [(true, 2, 16)]) ++ [(true, 1, 16)]) ++ [(true, 1, 600)]) ++ [(false, 4, 2)]) ++ [(true, 2, 24)])[p]? = some (false, 11, 16) := (gc_gx (x := (true, 2, 24)) (gc_gx (x := (false, 4, 2)) hs6))
  obtain ⟨Y8, ok8⟩ := mt_8 hw hws htb d (J := J) ln7 hB hs7 h20p ok7
  have ln8 : (((((((((((((sh ++ [(false, 4, 2)]) ++ [(true, 2, 8)]) ++ [(false, 4, 2)]) ++ [(true, 2, 48)]) ++ [(true, 1, 48)]) ++ [(true, 1, 48)]) ++ [(false, 4, 2)]) ++ [(true, 2, 16)]) ++ [(true, 1, 16)]) ++ [(true, 1, 600)]) ++ [(false, 4, 2)]) ++ [(true, 2, 24)]) ++ [(true, 1, 24)]).length = p + 14 := (gc_len1 (x := (true, 1, 24)) ln7)
  have hs8 : (((((((((((((sh ++ [(false, 4, 2)]) ++ [(true, 2, 8)]) ++ [(false, 4, 2)]) ++ [(true, 2, 48)]) ++ [(true, 1, 48)]) ++ [(true, 1, 48)]) ++ [(false, 4, 2)]) ++ [(true, 2, 16)]) ++ [(true, 1, 16)]) ++ [(true, 1, 600)]) ++ [(false, 4, 2)]) ++ [(true, 2, 24)]) ++ [(true, 1, 24)])[p]? = some (false, 11, 16) := (gc_gx (x := (true, 1, 24)) hs7)
  obtain ⟨Y9, ok9⟩ := mt_9 hw hws htb d (J := J) ln8 hB hs8 h20p ok8
  have ln9 : ((((((((((((((sh ++ [(false, 4, 2)]) ++ [(true, 2, 8)]) ++ [(false, 4, 2)]) ++ [(true, 2, 48)]) ++ [(true, 1, 48)]) ++ [(true, 1, 48)]) ++ [(false, 4, 2)]) ++ [(true, 2, 16)]) ++ [(true, 1, 16)]) ++ [(true, 1, 600)]) ++ [(false, 4, 2)]) ++ [(true, 2, 24)]) ++ [(true, 1, 24)]) ++ [(true, 1, 1728)]).length = p + 15 := (gc_len1 (x := (true, 1, 1728)) ln8)
  have hs9 : ((((((((((((((sh ++ [(false, 4, 2)]) ++ [(true, 2, 8)]) ++ [(false, 4, 2)]) ++ [(true, 2, 48)]) ++ [(true, 1, 48)]) ++ [(true, 1, 48)]) ++ [(false, 4, 2)]) ++ [(true, 2, 16)]) ++ [(true, 1, 16)]) ++ [(true, 1, 600)]) ++ [(false, 4, 2)]) ++ [(true, 2, 24)]) ++ [(true, 1, 24)]) ++ [(true, 1, 1728)])[p]? = some (false, 11, 16) := (gc_gx (x := (true, 1, 1728)) hs8)
  obtain ⟨Y10, ok10⟩ := mt_10 hw hws htb d (J := J) ln9 hB hs9 h20p ok9
  have ln10 : (((((((((((((((sh ++ [(false, 4, 2)]) ++ [(true, 2, 8)]) ++ [(false, 4, 2)]) ++ [(true, 2, 48)]) ++ [(true, 1, 48)]) ++ [(true, 1, 48)]) ++ [(false, 4, 2)]) ++ [(true, 2, 16)]) ++ [(true, 1, 16)]) ++ [(true, 1, 600)]) ++ [(false, 4, 2)]) ++ [(true, 2, 24)]) ++ [(true, 1, 24)]) ++ [(true, 1, 1728)]) ++ [(true, 1, 704)]).length = p + 16 := (gc_len1 (x := (true, 1, 704)) ln9)
  have hs10 : (((((((((((((((sh ++ [(false, 4, 2)]) ++ [(true, 2, 8)]) ++ [(false, 4, 2)]) ++ [(true, 2, 48)]) ++ [(true, 1, 48)]) ++ [(true, 1, 48)]) ++ [(false, 4, 2)]) ++ [(true, 2, 16)]) ++ [(true, 1, 16)]) ++ [(true, 1, 600)]) ++ [(false, 4, 2)]) ++ [(true, 2, 24)]) ++ [(true, 1, 24)]) ++ [(true, 1, 1728)]) ++ [(true, 1, 704)])[p]? = some (false, 11, 16) := (gc_gx (x := (true, 1, 704)) hs9)
  obtain ⟨Y11, ok11⟩ := mt_11 hw hws htb d (J := J) ln10 hB hs10 h20p ok10
  have ln11 : ((((((((((((((((sh ++ [(false, 4, 2)]) ++ [(true, 2, 8)]) ++ [(false, 4, 2)]) ++ [(true, 2, 48)]) ++ [(true, 1, 48)]) ++ [(true, 1, 48)]) ++ [(false, 4, 2)]) ++ [(true, 2, 16)]) ++ [(true, 1, 16)]) ++ [(true, 1, 600)]) ++ [(false, 4, 2)]) ++ [(true, 2, 24)]) ++ [(true, 1, 24)]) ++ [(true, 1, 1728)]) ++ [(true, 1, 704)]) ++ [(true, 4, 384)]).length = p + 17 := (gc_len1 (x := (true, 4, 384)) ln10)
  have hs11 : ((((((((((((((((sh ++ [(false, 4, 2)]) ++ [(true, 2, 8)]) ++ [(false, 4, 2)]) ++ [(true, 2, 48)]) ++ [(true, 1, 48)]) ++ [(true, 1, 48)]) ++ [(false, 4, 2)]) ++ [(true, 2, 16)]) ++ [(true, 1, 16)]) ++ [(true, 1, 600)]) ++ [(false, 4, 2)]) ++ [(true, 2, 24)]) ++ [(true, 1, 24)]) ++ [(true, 1, 1728)]) ++ [(true, 1, 704)]) ++ [(true, 4, 384)])[p]? = some (false, 11, 16) := (gc_gx (x := (true, 4, 384)) hs10)
  obtain ⟨I9, Y12, hI9, gF, qF, ok12⟩ := mt_12 hw hws htb d (J := J) hI hrF hrH ln11 hB hs11 h20p ok11
  have ln12 : ((((((((((((((((((((((((sh ++ [(false, 4, 2)]) ++ [(true, 2, 8)]) ++ [(false, 4, 2)]) ++ [(true, 2, 48)]) ++ [(true, 1, 48)]) ++ [(true, 1, 48)]) ++ [(false, 4, 2)]) ++ [(true, 2, 16)]) ++ [(true, 1, 16)]) ++ [(true, 1, 600)]) ++ [(false, 4, 2)]) ++ [(true, 2, 24)]) ++ [(true, 1, 24)]) ++ [(true, 1, 1728)]) ++ [(true, 1, 704)]) ++ [(true, 4, 384)]) ++ [(false, 2, 10)]) ++ [(true, 0, 36864)]) ++ [(true, 1, 1536)]) ++ [(true, 1, 1536)]) ++ [(true, 1, 512)]) ++ [(true, 1, 1536)]) ++ [(true, 0, 24)]) ++ [(true, 0, 24)]).length = p + 25 := (gc_len1 (x := (true, 0, 24)) (gc_len1 (x := (true, 0, 24)) (gc_len1 (x := (true, 1, 1536)) (gc_len1 (x := (true, 1, 512)) (gc_len1 (x := (true, 1, 1536)) (gc_len1 (x := (true, 1, 1536)) (gc_len1 (x := (true, 0, 36864)) (gc_len1 (x := (false, 2, 10)) ln11))))))))
  have hs12 : ((((((((((((((((((((((((sh ++ [(false, 4, 2)]) ++ [(true, 2, 8)]) ++ [(false, 4, 2)]) ++ [(true, 2, 48)]) ++ [(true, 1, 48)]) ++ [(true, 1, 48)]) ++ [(false, 4, 2)]) ++ [(true, 2, 16)]) ++ [(true, 1, 16)]) ++ [(true, 1, 600)]) ++ [(false, 4, 2)]) ++ [(true, 2, 24)]) ++ [(true, 1, 24)]) ++ [(true, 1, 1728)]) ++ [(true, 1, 704)]) ++ [(true, 4, 384)]) ++ [(false, 2, 10)]) ++ [(true, 0, 36864)]) ++ [(true, 1, 1536)]) ++ [(true, 1, 1536)]) ++ [(true, 1, 512)]) ++ [(true, 1, 1536)]) ++ [(true, 0, 24)]) ++ [(true, 0, 24)])[p]? = some (false, 11, 16) := (gc_gx (x := (true, 0, 24)) (gc_gx (x := (true, 0, 24)) (gc_gx (x := (true, 1, 1536)) (gc_gx (x := (true, 1, 512)) (gc_gx (x := (true, 1, 1536)) (gc_gx (x := (true, 1, 1536)) (gc_gx (x := (true, 0, 36864)) (gc_gx (x := (false, 2, 10)) hs11))))))))
  have eS : ((((((((((((((((((((((((sh ++ [(false, 4, 2)]) ++ [(true, 2, 8)]) ++ [(false, 4, 2)]) ++ [(true, 2, 48)]) ++ [(true, 1, 48)]) ++ [(true, 1, 48)]) ++ [(false, 4, 2)]) ++ [(true, 2, 16)]) ++ [(true, 1, 16)]) ++ [(true, 1, 600)]) ++ [(false, 4, 2)]) ++ [(true, 2, 24)]) ++ [(true, 1, 24)]) ++ [(true, 1, 1728)]) ++ [(true, 1, 704)]) ++ [(true, 4, 384)]) ++ [(false, 2, 10)]) ++ [(true, 0, 36864)]) ++ [(true, 1, 1536)]) ++ [(true, 1, 1536)]) ++ [(true, 1, 512)]) ++ [(true, 1, 1536)]) ++ [(true, 0, 24)]) ++ [(true, 0, 24)]) = sh ++ gc_tS := by
    unfold gc_tS
    simp only [List.append_assoc, List.cons_append, List.nil_append]
  refine ⟨I9, ?_, hI9, gF, qF, ?_⟩
  · have hD : gv_D (gc_Ei11 ws0 tb (d + 2) (yX11_init, cX11_init, 2, none) kX11_init) := gq_of oX11_init
    rw [← eS]
    refine gv_evYi rfl (code := kX11_init) (Nat.le_of_ble_eq_true rfl) ?_
    show gv_Y (ws0, RX11, gz_fi (tb RX11), _) _ _
    rw [gc_tb11 htb]
    show gv_Y (gc_Ei11 ws0 tb (d + 2) (yX11_init, cX11_init, 2, none) kX11_init) _ (0, [(0, .inr (.inr (some p))), (1, .inr (.inr (some 20)))], [], sh, gc_h sh I J A)
    refine gv_Ytr Y0 ?_
    refine gv_Ytr Y1 ?_
    refine gv_Ytr Y2 ?_
    refine gv_Ytr Y3 ?_
    refine gv_Ytr Y4 ?_
    refine gv_Ytr Y5 ?_
    refine gv_Ytr Y6 ?_
    refine gv_Ytr Y7 ?_
    refine gv_Ytr Y8 ?_
    refine gv_Ytr Y9 ?_
    refine gv_Ytr Y10 ?_
    refine gv_Ytr Y11 ?_
    refine gv_Ytr Y12 ?_
    refine gv_Yend ⟨Or.inl ⟨hD 137 _ rfl, rfl, rfl, rfl⟩, ?_, ?_, ?_, ?_⟩
    · exact rfl
    · exact gv_p5
    · show 2 + (2 + (1 + (1 + (2 + (1 + (1 + (2 + (1 + (1 + (1 + (1 + (8 + 0)))))))))))) = 24
      exact rfl
    · exact rfl
  · rw [← eS]
    exact ok12
theorem m_X11_init {ws0 : List Cond} {tb : String → gz_T} (hw : gc_Wn ws0) (hws : gc_Ws ws0) (htb : gc_tbs tb) (d : Nat) {sh : gz_Sh} {I : gr_I} {J : gr_J} {A : gc_A} {p : Nat} {ro : Nat → Nat} (hI : gc_Inv ro I) (hrF : ro (p + 17) = 24) (hrH : ro (p + 17 + 4) = 34) (hl0 : sh.length = p + 1) (hB : p + 25 ≤ 1000000) (hs : sh[p]? = some (false, 11, 16)) (h20p : 20 < p + 1) (hok : gc_OK sh I J A) : ∃ I9 : gr_I, gz_Ev ws0 tb (d + 3) (yX11_init, cX11_init, 2, none) [.inr (.inr (some p)), .inr (.inr (some 20))] sh (gc_h sh I J A) none (sh ++ gc_tS) (gc_h (sh ++ gc_tS) I9 J (gc_tA A p)) 24 45698 ∧ gc_Inv ro I9 ∧ (∀ q j : Nat, ((q = p + 17 ∧ j = 7) ∨ q = p + 17 + 4) ∨ I9 q j = I q j) ∧ (I9 (p + 17) 7 = 1 ∧ ∀ j, j < 512 → I9 (p + 17 + 4) j = -1) ∧ gc_OK (sh ++ gc_tS) I9 J (gc_tA A p) := by
  unfold gc_tA
  exact m_X11_init0 hw hws htb d hI hrF hrH hl0 hB hs h20p hok
