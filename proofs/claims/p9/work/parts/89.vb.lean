def gc_wnl : List Cond := [Cond.methodLink RX3 3 objectInit, Cond.instanceMethod objectInit, Cond.code objectInit ⟨#[0xb1]⟩ 1 none, Cond.arrayClass (newarray.typeOf .int), Cond.methodLink RX4 3 objectInit, Cond.arrayClass (newarray.typeOf .long), Cond.methodLink RX2 3 objectInit, Cond.arrayClass (newarray.typeOf .byte), Cond.methodLink RX11 3 objectInit, Cond.classLink RX11 9 RX4, gx_code (yX4_init, cX4_init, 2, none), Cond.initialized RX4, Cond.instanceMethod yX4_init, Cond.methodLink RX11 11 yX4_init, Cond.classLink RX11 51 RX3, Cond.classLink RX11 57 RX2, gx_code (yX2_init, cX2_init, 2, none), Cond.initialized RX2, Cond.instanceMethod yX2_init, Cond.methodLink RX11 59 yX2_init, Cond.classLink RX6 359 RX3, gx_code (yX3_init, cX3_init, 1, none), Cond.instanceMethod yX3_init, Cond.initialized RX3, Cond.classLink RX8 3 RX11, gx_code (yX11_init, cX11_init, 2, none), Cond.instanceMethod yX11_init, Cond.initialized RX11, Cond.methodLink RX8 104 yX11_init, Cond.instantiable RX3 16, Cond.instantiable RX4 2, Cond.instantiable RX2 10, Cond.instantiable RX11 16]
def gc_Wn (ws0 : List Cond) : Prop := (∀ w ∈ gc_wnl, w ∈ ws0) ∧ (∀ w ∈ u_ws RX3 TX3 16, w ∈ ws0) ∧ (∀ w ∈ u_ws RX4 TX4 2, w ∈ ws0) ∧ (∀ w ∈ u_ws RX2 TX2 10, w ∈ ws0) ∧ (∀ w ∈ u_ws RX11 TX11 16, w ∈ ws0)
theorem gc_lN3 {ws0 : List Cond} {own : String} {ix : Nat} (hw : gc_Wn ws0) (hc : Cond.classLink own ix RX3 ∈ ws0) : gz_lN ws0 own ix RX3 TX3 16 tyX3 := ⟨hw.2.1, hc, (hw.1 _ (List.mem_of_getElem? (i := 29) rfl)), (hw.1 _ (List.mem_of_getElem? (i := 23) rfl)), fun k hk => ⟨tyX3_ok k hk, (show ∀ k, k < 16 → gz_ndf (tyX3 k) = true from by decide +kernel) k hk⟩⟩
theorem gc_lN4 {ws0 : List Cond} {own : String} {ix : Nat} (hw : gc_Wn ws0) (hc : Cond.classLink own ix RX4 ∈ ws0) : gz_lN ws0 own ix RX4 TX4 2 tyX4 := ⟨hw.2.2.1, hc, (hw.1 _ (List.mem_of_getElem? (i := 30) rfl)), (hw.1 _ (List.mem_of_getElem? (i := 11) rfl)), fun k hk => ⟨tyX4_ok k hk, (show ∀ k, k < 2 → gz_ndf (tyX4 k) = true from by decide +kernel) k hk⟩⟩
theorem gc_lN2 {ws0 : List Cond} {own : String} {ix : Nat} (hw : gc_Wn ws0) (hc : Cond.classLink own ix RX2 ∈ ws0) : gz_lN ws0 own ix RX2 TX2 10 tyX2 := ⟨hw.2.2.2.1, hc, (hw.1 _ (List.mem_of_getElem? (i := 31) rfl)), (hw.1 _ (List.mem_of_getElem? (i := 17) rfl)), fun k hk => ⟨tyX2_ok k hk, (show ∀ k, k < 10 → gz_ndf (tyX2 k) = true from by decide +kernel) k hk⟩⟩
theorem gc_lN11 {ws0 : List Cond} {own : String} {ix : Nat} (hw : gc_Wn ws0) (hc : Cond.classLink own ix RX11 ∈ ws0) : gz_lN ws0 own ix RX11 TX11 16 tyX11 := ⟨hw.2.2.2.2, hc, (hw.1 _ (List.mem_of_getElem? (i := 32) rfl)), (hw.1 _ (List.mem_of_getElem? (i := 27) rfl)), fun k hk => ⟨tyX11_ok k hk, (show ∀ k, k < 16 → gz_ndf (tyX11 k) = true from by decide +kernel) k hk⟩⟩
theorem gc_dy3 {u : Nat} : ∀ k, k < 16 → gc_dvc u (gc_tx (false, 3, 16) k) = gz_dv (tyX3 k) := fun k hk => match k, hk with
  | 0, _ => rfl
  | 1, _ => rfl
  | 2, _ => rfl
  | 3, _ => rfl
  | 4, _ => rfl
  | 5, _ => rfl
  | 6, _ => rfl
  | 7, _ => rfl
  | 8, _ => rfl
  | 9, _ => rfl
  | 10, _ => rfl
  | 11, _ => rfl
  | 12, _ => rfl
  | 13, _ => rfl
  | 14, _ => rfl
  | 15, _ => rfl
  | _ + 16, h => absurd h (by omega)
theorem gc_dy4 {u : Nat} : ∀ k, k < 2 → gc_dvc u (gc_tx (false, 4, 2) k) = gz_dv (tyX4 k) := fun k hk => match k, hk with
  | 0, _ => rfl
  | 1, _ => rfl
  | _ + 2, h => absurd h (by omega)
theorem gc_dy11 {u : Nat} : ∀ k, k < 16 → gc_dvc u (gc_tx (false, 11, 16) k) = gz_dv (tyX11 k) := fun k hk => match k, hk with
  | 0, _ => rfl
  | 1, _ => rfl
  | 2, _ => rfl
  | 3, _ => rfl
  | 4, _ => rfl
  | 5, _ => rfl
  | 6, _ => rfl
  | 7, _ => rfl
  | 8, _ => rfl
  | 9, _ => rfl
  | 10, _ => rfl
  | 11, _ => rfl
  | 12, _ => rfl
  | 13, _ => rfl
  | 14, _ => rfl
  | 15, _ => rfl
  | _ + 16, h => absurd h (by omega)
theorem m_X3_init {ws0 : List Cond} {tb : String → gz_T} (hw : gc_Wn ws0) (hws : gc_Ws ws0) (htb : gc_tbs tb) (d : Nat) {sh : gz_Sh} {I : gr_I} {J : gr_J} {A : gc_A} {p : Nat} (hl0 : sh.length = p + 1) (hB : p + 9 ≤ 1000000) (hs : sh[p]? = some (false, 3, 16)) (hok : gc_OK sh I J A) : gz_Ev ws0 tb (d + 1) (yX3_init, cX3_init, 1, none) [.inr (.inr (some p))] sh (gc_h sh I J A) none ((((((((sh ++ [(true, 1, 6)]) ++ [(true, 1, 6)]) ++ [(true, 1, 6)]) ++ [(true, 1, 4)]) ++ [(true, 1, 4)]) ++ [(true, 1, 4)]) ++ [(true, 1, 18)]) ++ [(true, 1, 18)]) (gc_h ((((((((sh ++ [(true, 1, 6)]) ++ [(true, 1, 6)]) ++ [(true, 1, 6)]) ++ [(true, 1, 4)]) ++ [(true, 1, 4)]) ++ [(true, 1, 4)]) ++ [(true, 1, 18)]) ++ [(true, 1, 18)]) I J (gc_u (gc_u (gc_u (gc_u (gc_u (gc_u (gc_u (gc_u A p 5 (some (p + 1))) p 6 (some (p + 2))) p 7 (some (p + 3))) p 9 (some (p + 4))) p 10 (some (p + 5))) p 11 (some (p + 6))) p 13 (some (p + 7))) p 15 (some (p + 8)))) 8 (66) := by
  have ok1 := gc_OKx (x := (true, 1, 6)) hok (fun k => Nat.le_of_ble_eq_true rfl)
  have ln1 : (sh ++ [(true, 1, 6)]).length = p + 2 := gc_len1 hl0
  have S1_p := gc_gx (x := (true, 1, 6)) hs
  have S1_p1 := gc_gl (x := (true, 1, 6)) (p := (p + 1)) (by rw [hl0])
  have ok2 := gc_OKu (k := 5) (q := (p + 1)) ok1 S1_p rfl (by rw [ln1]; exact Nat.add_lt_add_left (by decide) p)
  have ok3 := gc_OKx (x := (true, 1, 6)) ok2 (fun k => Nat.le_of_ble_eq_true rfl)
  have ln3 : ((sh ++ [(true, 1, 6)]) ++ [(true, 1, 6)]).length = p + 3 := gc_len1 ln1
  have S3_p := gc_gx (x := (true, 1, 6)) S1_p
  have S3_p1 := gc_gx (x := (true, 1, 6)) S1_p1
  have S3_p2 := gc_gl (x := (true, 1, 6)) (p := (p + 2)) (by rw [ln1])
  have ok4 := gc_OKu (k := 6) (q := (p + 2)) ok3 S3_p rfl (by rw [ln3]; exact Nat.add_lt_add_left (by decide) p)
  have ok5 := gc_OKx (x := (true, 1, 6)) ok4 (fun k => Nat.le_of_ble_eq_true rfl)
  have ln5 : (((sh ++ [(true, 1, 6)]) ++ [(true, 1, 6)]) ++ [(true, 1, 6)]).length = p + 4 := gc_len1 ln3
  have S5_p := gc_gx (x := (true, 1, 6)) S3_p
  have S5_p1 := gc_gx (x := (true, 1, 6)) S3_p1
  have S5_p2 := gc_gx (x := (true, 1, 6)) S3_p2
  have S5_p3 := gc_gl (x := (true, 1, 6)) (p := (p + 3)) (by rw [ln3])
  have ok6 := gc_OKu (k := 7) (q := (p + 3)) ok5 S5_p rfl (by rw [ln5]; exact Nat.add_lt_add_left (by decide) p)
  have ok7 := gc_OKx (x := (true, 1, 4)) ok6 (fun k => Nat.le_of_ble_eq_true rfl)
  have ln7 : ((((sh ++ [(true, 1, 6)]) ++ [(true, 1, 6)]) ++ [(true, 1, 6)]) ++ [(true, 1, 4)]).length = p + 5 := gc_len1 ln5
  have S7_p := gc_gx (x := (true, 1, 4)) S5_p
  have S7_p1 := gc_gx (x := (true, 1, 4)) S5_p1
  have S7_p2 := gc_gx (x := (true, 1, 4)) S5_p2
  have S7_p3 := gc_gx (x := (true, 1, 4)) S5_p3
  have S7_p4 := gc_gl (x := (true, 1, 4)) (p := (p + 4)) (by rw [ln5])
  have ok8 := gc_OKu (k := 9) (q := (p + 4)) ok7 S7_p rfl (by rw [ln7]; exact Nat.add_lt_add_left (by decide) p)
  have ok9 := gc_OKx (x := (true, 1, 4)) ok8 (fun k => Nat.le_of_ble_eq_true rfl)
  have ln9 : (((((sh ++ [(true, 1, 6)]) ++ [(true, 1, 6)]) ++ [(true, 1, 6)]) ++ [(true, 1, 4)]) ++ [(true, 1, 4)]).length = p + 6 := gc_len1 ln7
  have S9_p := gc_gx (x := (true, 1, 4)) S7_p
  have S9_p1 := gc_gx (x := (true, 1, 4)) S7_p1
  have S9_p2 := gc_gx (x := (true, 1, 4)) S7_p2
  have S9_p3 := gc_gx (x := (true, 1, 4)) S7_p3
  have S9_p4 := gc_gx (x := (true, 1, 4)) S7_p4
  have S9_p5 := gc_gl (x := (true, 1, 4)) (p := (p + 5)) (by rw [ln7])
  have ok10 := gc_OKu (k := 10) (q := (p + 5)) ok9 S9_p rfl (by rw [ln9]; exact Nat.add_lt_add_left (by decide) p)
  have ok11 := gc_OKx (x := (true, 1, 4)) ok10 (fun k => Nat.le_of_ble_eq_true rfl)
  have ln11 : ((((((sh ++ [(true, 1, 6)]) ++ [(true, 1, 6)]) ++ [(true, 1, 6)]) ++ [(true, 1, 4)]) ++ [(true, 1, 4)]) ++ [(true, 1, 4)]).length = p + 7 := gc_len1 ln9
  have S11_p := gc_gx (x := (true, 1, 4)) S9_p
  have S11_p1 := gc_gx (x := (true, 1, 4)) S9_p1
  have S11_p2 := gc_gx (x := (true, 1, 4)) S9_p2
  have S11_p3 := gc_gx (x := (true, 1, 4)) S9_p3
  have S11_p4 := gc_gx (x := (true, 1, 4)) S9_p4
  have S11_p5 := gc_gx (x := (true, 1, 4)) S9_p5
  have S11_p6 := gc_gl (x := (true, 1, 4)) (p := (p + 6)) (by rw [ln9])
  have ok12 := gc_OKu (k := 11) (q := (p + 6)) ok11 S11_p rfl (by rw [ln11]; exact Nat.add_lt_add_left (by decide) p)
  have ok13 := gc_OKx (x := (true, 1, 18)) ok12 (fun k => Nat.le_of_ble_eq_true rfl)
  have ln13 : (((((((sh ++ [(true, 1, 6)]) ++ [(true, 1, 6)]) ++ [(true, 1, 6)]) ++ [(true, 1, 4)]) ++ [(true, 1, 4)]) ++ [(true, 1, 4)]) ++ [(true, 1, 18)]).length = p + 8 := gc_len1 ln11
  have S13_p := gc_gx (x := (true, 1, 18)) S11_p
  have S13_p1 := gc_gx (x := (true, 1, 18)) S11_p1
  have S13_p2 := gc_gx (x := (true, 1, 18)) S11_p2
  have S13_p3 := gc_gx (x := (true, 1, 18)) S11_p3
  have S13_p4 := gc_gx (x := (true, 1, 18)) S11_p4
  have S13_p5 := gc_gx (x := (true, 1, 18)) S11_p5
  have S13_p6 := gc_gx (x := (true, 1, 18)) S11_p6
  have S13_p7 := gc_gl (x := (true, 1, 18)) (p := (p + 7)) (by rw [ln11])
  have ok14 := gc_OKu (k := 13) (q := (p + 7)) ok13 S13_p rfl (by rw [ln13]; exact Nat.add_lt_add_left (by decide) p)
  have ok15 := gc_OKx (x := (true, 1, 18)) ok14 (fun k => Nat.le_of_ble_eq_true rfl)
  have ln15 : ((((((((sh ++ [(true, 1, 6)]) ++ [(true, 1, 6)]) ++ [(true, 1, 6)]) ++ [(true, 1, 4)]) ++ [(true, 1, 4)]) ++ [(true, 1, 4)]) ++ [(true, 1, 18)]) ++ [(true, 1, 18)]).length = p + 9 := gc_len1 ln13
  have S15_p := gc_gx (x := (true, 1, 18)) S13_p
  have S15_p1 := gc_gx (x := (true, 1, 18)) S13_p1
  have S15_p2 := gc_gx (x := (true, 1, 18)) S13_p2
  have S15_p3 := gc_gx (x := (true, 1, 18)) S13_p3
  have S15_p4 := gc_gx (x := (true, 1, 18)) S13_p4
  have S15_p5 := gc_gx (x := (true, 1, 18)) S13_p5
  have S15_p6 := gc_gx (x := (true, 1, 18)) S13_p6
  have S15_p7 := gc_gx (x := (true, 1, 18)) S13_p7
  have S15_p8 := gc_gl (x := (true, 1, 18)) (p := (p + 8)) (by rw [ln13])
  have ok16 := gc_OKu (k := 15) (q := (p + 8)) ok15 S15_p rfl (by rw [ln15]; exact Nat.add_lt_add_left (by decide) p)
  have hD : gv_D (gc_Ei3 ws0 tb (d + 0) (yX3_init, cX3_init, 1, none) kX3_init) := gq_of oX3_init
  refine gv_evYi rfl (code := kX3_init) (Nat.le_of_ble_eq_true rfl) ?_
  show gv_Y (ws0, RX3, gz_fi (tb RX3), _) _ _
  rw [gc_tb3 htb]
  show gv_Y (gc_Ei3 ws0 tb (d + 0) (yX3_init, cX3_init, 1, none) kX3_init) _ (0, [(0, .inr (.inr (some p)))], [], sh, gc_h sh I J A)
  refine gv_lift (fun hk => gv_run 1 true hD (pcₚ := 1) (lvₚ := [(0, .inr (.inr (some p)))]) (stₚ := [.inr (.inr (some p))]) (hₚ := gc_h sh I J A) (C := (True ∧ True)) rfl ⟨trivial, trivial⟩ hk) ?_
  refine gc_Yobj hD (ix := 3) rfl (Nat.le_of_ble_eq_true rfl) (hw.1 _ (List.mem_of_getElem? (i := 0) rfl)) (hw.1 _ (List.mem_of_getElem? (i := 1) rfl)) (hw.1 _ (List.mem_of_getElem? (i := 2) rfl)) ?_
  refine gv_lift (fun hk => gv_run 2 true hD (pcₚ := 7) (lvₚ := [(0, .inr (.inr (some p)))]) (stₚ := [.inl 6, .inr (.inr (some p))]) (hₚ := gc_h sh I J A) (C := ((True ∧ True) ∧ True)) rfl ⟨⟨trivial, trivial⟩, trivial⟩ hk) ?_
  show gv_Y _ _ (_, _, .inl ((6 : Nat) : Int) :: _, _, _)
  refine gc_Yarr hD (at_ := .int) (t := 1) (n := 6) (r := (p + 1)) rfl rfl (hw.1 _ (List.mem_of_getElem? (i := 3) rfl)) (Nat.le_of_ble_eq_true rfl) (Nat.le_of_ble_eq_true rfl) (by rw [hl0]; exact Nat.lt_of_lt_of_le (show p + 1 < p + 9 from Nat.add_lt_add_left (by decide) p) hB) hok (gc_okc (Or.inl (by rw [hl0]; exact Nat.lt_add_of_pos_right (by decide))) gc_ok0) (gc_oks (Or.inl (by rw [hl0]; exact Nat.lt_add_of_pos_right (by decide))) gc_ok0) (by rw [hl0]) ?_
  refine gv_lift (fun hk => gv_put hD rfl rfl S1_p ⟨by decide, (Nat.lt_of_lt_of_le (show p < p + 9 from Nat.lt_add_of_pos_right (by decide)) hB)⟩ rfl trivial hk) ?_
  rw [gc_hUA S1_p rfl]
  refine gv_lift (fun hk => gv_run 2 true hD (pcₚ := 15) (lvₚ := [(0, .inr (.inr (some p)))]) (stₚ := [.inl 6, .inr (.inr (some p))]) (hₚ := gc_h (sh ++ [(true, 1, 6)]) I J (gc_u A p 5 (some (p + 1)))) (C := ((True ∧ True) ∧ True)) rfl ⟨⟨trivial, trivial⟩, trivial⟩ hk) ?_
  show gv_Y _ _ (_, _, .inl ((6 : Nat) : Int) :: _, _, _)
  refine gc_Yarr hD (at_ := .int) (t := 1) (n := 6) (r := (p + 2)) rfl rfl (hw.1 _ (List.mem_of_getElem? (i := 3) rfl)) (Nat.le_of_ble_eq_true rfl) (Nat.le_of_ble_eq_true rfl) (by rw [ln1]; exact Nat.lt_of_lt_of_le (show p + 2 < p + 9 from Nat.add_lt_add_left (by decide) p) hB) ok2 (gc_okc (Or.inl (by rw [ln1]; exact Nat.lt_add_of_pos_right (by decide))) gc_ok0) (gc_oks (Or.inl (by rw [ln1]; exact Nat.lt_add_of_pos_right (by decide))) gc_ok0) (by rw [ln1]) ?_
  refine gv_lift (fun hk => gv_put hD rfl rfl S3_p ⟨by decide, (Nat.lt_of_lt_of_le (show p < p + 9 from Nat.lt_add_of_pos_right (by decide)) hB)⟩ rfl trivial hk) ?_
  rw [gc_hUA S3_p rfl]
  refine gv_lift (fun hk => gv_run 2 true hD (pcₚ := 23) (lvₚ := [(0, .inr (.inr (some p)))]) (stₚ := [.inl 6, .inr (.inr (some p))]) (hₚ := gc_h ((sh ++ [(true, 1, 6)]) ++ [(true, 1, 6)]) I J (gc_u (gc_u A p 5 (some (p + 1))) p 6 (some (p + 2)))) (C := ((True ∧ True) ∧ True)) rfl ⟨⟨trivial, trivial⟩, trivial⟩ hk) ?_
  show gv_Y _ _ (_, _, .inl ((6 : Nat) : Int) :: _, _, _)
  refine gc_Yarr hD (at_ := .int) (t := 1) (n := 6) (r := (p + 3)) rfl rfl (hw.1 _ (List.mem_of_getElem? (i := 3) rfl)) (Nat.le_of_ble_eq_true rfl) (Nat.le_of_ble_eq_true rfl) (by rw [ln3]; exact Nat.lt_of_lt_of_le (show p + 3 < p + 9 from Nat.add_lt_add_left (by decide) p) hB) ok4 (gc_okc (Or.inl (by rw [ln3]; exact Nat.lt_add_of_pos_right (by decide))) gc_ok0) (gc_oks (Or.inl (by rw [ln3]; exact Nat.lt_add_of_pos_right (by decide))) gc_ok0) (by rw [ln3]) ?_
  refine gv_lift (fun hk => gv_put hD rfl rfl S5_p ⟨by decide, (Nat.lt_of_lt_of_le (show p < p + 9 from Nat.lt_add_of_pos_right (by decide)) hB)⟩ rfl trivial hk) ?_
  rw [gc_hUA S5_p rfl]
  refine gv_lift (fun hk => gv_run 2 true hD (pcₚ := 30) (lvₚ := [(0, .inr (.inr (some p)))]) (stₚ := [.inl 4, .inr (.inr (some p))]) (hₚ := gc_h (((sh ++ [(true, 1, 6)]) ++ [(true, 1, 6)]) ++ [(true, 1, 6)]) I J (gc_u (gc_u (gc_u A p 5 (some (p + 1))) p 6 (some (p + 2))) p 7 (some (p + 3)))) (C := ((True ∧ True) ∧ True)) rfl ⟨⟨trivial, trivial⟩, trivial⟩ hk) ?_
  show gv_Y _ _ (_, _, .inl ((4 : Nat) : Int) :: _, _, _)
  refine gc_Yarr hD (at_ := .int) (t := 1) (n := 4) (r := (p + 4)) rfl rfl (hw.1 _ (List.mem_of_getElem? (i := 3) rfl)) (Nat.le_of_ble_eq_true rfl) (Nat.le_of_ble_eq_true rfl) (by rw [ln5]; exact Nat.lt_of_lt_of_le (show p + 4 < p + 9 from Nat.add_lt_add_left (by decide) p) hB) ok6 (gc_okc (Or.inl (by rw [ln5]; exact Nat.lt_add_of_pos_right (by decide))) gc_ok0) (gc_oks (Or.inl (by rw [ln5]; exact Nat.lt_add_of_pos_right (by decide))) gc_ok0) (by rw [ln5]) ?_
  refine gv_lift (fun hk => gv_put hD rfl rfl S7_p ⟨by decide, (Nat.lt_of_lt_of_le (show p < p + 9 from Nat.lt_add_of_pos_right (by decide)) hB)⟩ rfl trivial hk) ?_
  rw [gc_hUA S7_p rfl]
  refine gv_lift (fun hk => gv_run 2 true hD (pcₚ := 37) (lvₚ := [(0, .inr (.inr (some p)))]) (stₚ := [.inl 4, .inr (.inr (some p))]) (hₚ := gc_h ((((sh ++ [(true, 1, 6)]) ++ [(true, 1, 6)]) ++ [(true, 1, 6)]) ++ [(true, 1, 4)]) I J (gc_u (gc_u (gc_u (gc_u A p 5 (some (p + 1))) p 6 (some (p + 2))) p 7 (some (p + 3))) p 9 (some (p + 4)))) (C := ((True ∧ True) ∧ True)) rfl ⟨⟨trivial, trivial⟩, trivial⟩ hk) ?_
  show gv_Y _ _ (_, _, .inl ((4 : Nat) : Int) :: _, _, _)
  refine gc_Yarr hD (at_ := .int) (t := 1) (n := 4) (r := (p + 5)) rfl rfl (hw.1 _ (List.mem_of_getElem? (i := 3) rfl)) (Nat.le_of_ble_eq_true rfl) (Nat.le_of_ble_eq_true rfl) (by rw [ln7]; exact Nat.lt_of_lt_of_le (show p + 5 < p + 9 from Nat.add_lt_add_left (by decide) p) hB) ok8 (gc_okc (Or.inl (by rw [ln7]; exact Nat.lt_add_of_pos_right (by decide))) gc_ok0) (gc_oks (Or.inl (by rw [ln7]; exact Nat.lt_add_of_pos_right (by decide))) gc_ok0) (by rw [ln7]) ?_
  refine gv_lift (fun hk => gv_put hD rfl rfl S9_p ⟨by decide, (Nat.lt_of_lt_of_le (show p < p + 9 from Nat.lt_add_of_pos_right (by decide)) hB)⟩ rfl trivial hk) ?_
  rw [gc_hUA S9_p rfl]
  refine gv_lift (fun hk => gv_run 2 true hD (pcₚ := 44) (lvₚ := [(0, .inr (.inr (some p)))]) (stₚ := [.inl 4, .inr (.inr (some p))]) (hₚ := gc_h (((((sh ++ [(true, 1, 6)]) ++ [(true, 1, 6)]) ++ [(true, 1, 6)]) ++ [(true, 1, 4)]) ++ [(true, 1, 4)]) I J (gc_u (gc_u (gc_u (gc_u (gc_u A p 5 (some (p + 1))) p 6 (some (p + 2))) p 7 (some (p + 3))) p 9 (some (p + 4))) p 10 (some (p + 5)))) (C := ((True ∧ True) ∧ True)) rfl ⟨⟨trivial, trivial⟩, trivial⟩ hk) ?_
  show gv_Y _ _ (_, _, .inl ((4 : Nat) : Int) :: _, _, _)
  refine gc_Yarr hD (at_ := .int) (t := 1) (n := 4) (r := (p + 6)) rfl rfl (hw.1 _ (List.mem_of_getElem? (i := 3) rfl)) (Nat.le_of_ble_eq_true rfl) (Nat.le_of_ble_eq_true rfl) (by rw [ln9]; exact Nat.lt_of_lt_of_le (show p + 6 < p + 9 from Nat.add_lt_add_left (by decide) p) hB) ok10 (gc_okc (Or.inl (by rw [ln9]; exact Nat.lt_add_of_pos_right (by decide))) gc_ok0) (gc_oks (Or.inl (by rw [ln9]; exact Nat.lt_add_of_pos_right (by decide))) gc_ok0) (by rw [ln9]) ?_
  refine gv_lift (fun hk => gv_put hD rfl rfl S11_p ⟨by decide, (Nat.lt_of_lt_of_le (show p < p + 9 from Nat.lt_add_of_pos_right (by decide)) hB)⟩ rfl trivial hk) ?_
  rw [gc_hUA S11_p rfl]
  refine gv_lift (fun hk => gv_run 2 true hD (pcₚ := 52) (lvₚ := [(0, .inr (.inr (some p)))]) (stₚ := [.inl 18, .inr (.inr (some p))]) (hₚ := gc_h ((((((sh ++ [(true, 1, 6)]) ++ [(true, 1, 6)]) ++ [(true, 1, 6)]) ++ [(true, 1, 4)]) ++ [(true, 1, 4)]) ++ [(true, 1, 4)]) I J (gc_u (gc_u (gc_u (gc_u (gc_u (gc_u A p 5 (some (p + 1))) p 6 (some (p + 2))) p 7 (some (p + 3))) p 9 (some (p + 4))) p 10 (some (p + 5))) p 11 (some (p + 6)))) (C := ((True ∧ True) ∧ True)) rfl ⟨⟨trivial, trivial⟩, trivial⟩ hk) ?_
  show gv_Y _ _ (_, _, .inl ((18 : Nat) : Int) :: _, _, _)
  refine gc_Yarr hD (at_ := .int) (t := 1) (n := 18) (r := (p + 7)) rfl rfl (hw.1 _ (List.mem_of_getElem? (i := 3) rfl)) (Nat.le_of_ble_eq_true rfl) (Nat.le_of_ble_eq_true rfl) (by rw [ln11]; exact Nat.lt_of_lt_of_le (show p + 7 < p + 9 from Nat.add_lt_add_left (by decide) p) hB) ok12 (gc_okc (Or.inl (by rw [ln11]; exact Nat.lt_add_of_pos_right (by decide))) gc_ok0) (gc_oks (Or.inl (by rw [ln11]; exact Nat.lt_add_of_pos_right (by decide))) gc_ok0) (by rw [ln11]) ?_
  refine gv_lift (fun hk => gv_put hD rfl rfl S13_p ⟨by decide, (Nat.lt_of_lt_of_le (show p < p + 9 from Nat.lt_add_of_pos_right (by decide)) hB)⟩ rfl trivial hk) ?_
  rw [gc_hUA S13_p rfl]
  refine gv_lift (fun hk => gv_run 2 true hD (pcₚ := 60) (lvₚ := [(0, .inr (.inr (some p)))]) (stₚ := [.inl 18, .inr (.inr (some p))]) (hₚ := gc_h (((((((sh ++ [(true, 1, 6)]) ++ [(true, 1, 6)]) ++ [(true, 1, 6)]) ++ [(true, 1, 4)]) ++ [(true, 1, 4)]) ++ [(true, 1, 4)]) ++ [(true, 1, 18)]) I J (gc_u (gc_u (gc_u (gc_u (gc_u (gc_u (gc_u A p 5 (some (p + 1))) p 6 (some (p + 2))) p 7 (some (p + 3))) p 9 (some (p + 4))) p 10 (some (p + 5))) p 11 (some (p + 6))) p 13 (some (p + 7)))) (C := ((True ∧ True) ∧ True)) rfl ⟨⟨trivial, trivial⟩, trivial⟩ hk) ?_
  show gv_Y _ _ (_, _, .inl ((18 : Nat) : Int) :: _, _, _)
  refine gc_Yarr hD (at_ := .int) (t := 1) (n := 18) (r := (p + 8)) rfl rfl (hw.1 _ (List.mem_of_getElem? (i := 3) rfl)) (Nat.le_of_ble_eq_true rfl) (Nat.le_of_ble_eq_true rfl) (by rw [ln13]; exact Nat.lt_of_lt_of_le (show p + 8 < p + 9 from Nat.add_lt_add_left (by decide) p) hB) ok14 (gc_okc (Or.inl (by rw [ln13]; exact Nat.lt_add_of_pos_right (by decide))) gc_ok0) (gc_oks (Or.inl (by rw [ln13]; exact Nat.lt_add_of_pos_right (by decide))) gc_ok0) (by rw [ln13]) ?_
  refine gv_lift (fun hk => gv_put hD rfl rfl S15_p ⟨by decide, (Nat.lt_of_lt_of_le (show p < p + 9 from Nat.lt_add_of_pos_right (by decide)) hB)⟩ rfl trivial hk) ?_
  rw [gc_hUA S15_p rfl]
  exact gv_Yend ⟨Or.inl ⟨hD 65 _ rfl, rfl, rfl, rfl⟩, rfl, rfl, rfl, rfl⟩
theorem mo_X3_init {ws0 : List Cond} {tb : String → gz_T} (hw : gc_Wn ws0) (hws : gc_Ws ws0) (htb : gc_tbs tb) (d : Nat) {sh : gz_Sh} {I : gr_I} {J : gr_J} {A : gc_A} {p : Nat} (hl0 : sh.length = p + 1) (hB : p + 9 ≤ 1000000) (hs : sh[p]? = some (false, 3, 16)) (hok : gc_OK sh I J A) : gc_OK ((((((((sh ++ [(true, 1, 6)]) ++ [(true, 1, 6)]) ++ [(true, 1, 6)]) ++ [(true, 1, 4)]) ++ [(true, 1, 4)]) ++ [(true, 1, 4)]) ++ [(true, 1, 18)]) ++ [(true, 1, 18)]) I J (gc_u (gc_u (gc_u (gc_u (gc_u (gc_u (gc_u (gc_u A p 5 (some (p + 1))) p 6 (some (p + 2))) p 7 (some (p + 3))) p 9 (some (p + 4))) p 10 (some (p + 5))) p 11 (some (p + 6))) p 13 (some (p + 7))) p 15 (some (p + 8))) := by
  have ok1 := gc_OKx (x := (true, 1, 6)) hok (fun k => Nat.le_of_ble_eq_true rfl)
  have ln1 : (sh ++ [(true, 1, 6)]).length = p + 2 := gc_len1 hl0
  have S1_p := gc_gx (x := (true, 1, 6)) hs
  have S1_p1 := gc_gl (x := (true, 1, 6)) (p := (p + 1)) (by rw [hl0])
  have ok2 := gc_OKu (k := 5) (q := (p + 1)) ok1 S1_p rfl (by rw [ln1]; exact Nat.add_lt_add_left (by decide) p)
  have ok3 := gc_OKx (x := (true, 1, 6)) ok2 (fun k => Nat.le_of_ble_eq_true rfl)
  have ln3 : ((sh ++ [(true, 1, 6)]) ++ [(true, 1, 6)]).length = p + 3 := gc_len1 ln1
  have S3_p := gc_gx (x := (true, 1, 6)) S1_p
  have S3_p1 := gc_gx (x := (true, 1, 6)) S1_p1
  have S3_p2 := gc_gl (x := (true, 1, 6)) (p := (p + 2)) (by rw [ln1])
  have ok4 := gc_OKu (k := 6) (q := (p + 2)) ok3 S3_p rfl (by rw [ln3]; exact Nat.add_lt_add_left (by decide) p)
  have ok5 := gc_OKx (x := (true, 1, 6)) ok4 (fun k => Nat.le_of_ble_eq_true rfl)
  have ln5 : (((sh ++ [(true, 1, 6)]) ++ [(true, 1, 6)]) ++ [(true, 1, 6)]).length = p + 4 := gc_len1 ln3
  have S5_p := gc_gx (x := (true, 1, 6)) S3_p
  have S5_p1 := gc_gx (x := (true, 1, 6)) S3_p1
  have S5_p2 := gc_gx (x := (true, 1, 6)) S3_p2
  have S5_p3 := gc_gl (x := (true, 1, 6)) (p := (p + 3)) (by rw [ln3])
  have ok6 := gc_OKu (k := 7) (q := (p + 3)) ok5 S5_p rfl (by rw [ln5]; exact Nat.add_lt_add_left (by decide) p)
  have ok7 := gc_OKx (x := (true, 1, 4)) ok6 (fun k => Nat.le_of_ble_eq_true rfl)
  have ln7 : ((((sh ++ [(true, 1, 6)]) ++ [(true, 1, 6)]) ++ [(true, 1, 6)]) ++ [(true, 1, 4)]).length = p + 5 := gc_len1 ln5
  have S7_p := gc_gx (x := (true, 1, 4)) S5_p
  have S7_p1 := gc_gx (x := (true, 1, 4)) S5_p1
  have S7_p2 := gc_gx (x := (true, 1, 4)) S5_p2
  have S7_p3 := gc_gx (x := (true, 1, 4)) S5_p3
  have S7_p4 := gc_gl (x := (true, 1, 4)) (p := (p + 4)) (by rw [ln5])
  have ok8 := gc_OKu (k := 9) (q := (p + 4)) ok7 S7_p rfl (by rw [ln7]; exact Nat.add_lt_add_left (by decide) p)
  have ok9 := gc_OKx (x := (true, 1, 4)) ok8 (fun k => Nat.le_of_ble_eq_true rfl)
  have ln9 : (((((sh ++ [(true, 1, 6)]) ++ [(true, 1, 6)]) ++ [(true, 1, 6)]) ++ [(true, 1, 4)]) ++ [(true, 1, 4)]).length = p + 6 := gc_len1 ln7
  have S9_p := gc_gx (x := (true, 1, 4)) S7_p
  have S9_p1 := gc_gx (x := (true, 1, 4)) S7_p1
  have S9_p2 := gc_gx (x := (true, 1, 4)) S7_p2
  have S9_p3 := gc_gx (x := (true, 1, 4)) S7_p3
  have S9_p4 := gc_gx (x := (true, 1, 4)) S7_p4
  have S9_p5 := gc_gl (x := (true, 1, 4)) (p := (p + 5)) (by rw [ln7])
  have ok10 := gc_OKu (k := 10) (q := (p + 5)) ok9 S9_p rfl (by rw [ln9]; exact Nat.add_lt_add_left (by decide) p)
  have ok11 := gc_OKx (x := (true, 1, 4)) ok10 (fun k => Nat.le_of_ble_eq_true rfl)
  have ln11 : ((((((sh ++ [(true, 1, 6)]) ++ [(true, 1, 6)]) ++ [(true, 1, 6)]) ++ [(true, 1, 4)]) ++ [(true, 1, 4)]) ++ [(true, 1, 4)]).length = p + 7 := gc_len1 ln9
  have S11_p := gc_gx (x := (true, 1, 4)) S9_p
  have S11_p1 := gc_gx (x := (true, 1, 4)) S9_p1
  have S11_p2 := gc_gx (x := (true, 1, 4)) S9_p2
  have S11_p3 := gc_gx (x := (true, 1, 4)) S9_p3
  have S11_p4 := gc_gx (x := (true, 1, 4)) S9_p4
  have S11_p5 := gc_gx (x := (true, 1, 4)) S9_p5
  have S11_p6 := gc_gl (x := (true, 1, 4)) (p := (p + 6)) (by rw [ln9])
  have ok12 := gc_OKu (k := 11) (q := (p + 6)) ok11 S11_p rfl (by rw [ln11]; exact Nat.add_lt_add_left (by decide) p)
  have ok13 := gc_OKx (x := (true, 1, 18)) ok12 (fun k => Nat.le_of_ble_eq_true rfl)
  have ln13 : (((((((sh ++ [(true, 1, 6)]) ++ [(true, 1, 6)]) ++ [(true, 1, 6)]) ++ [(true, 1, 4)]) ++ [(true, 1, 4)]) ++ [(true, 1, 4)]) ++ [(true, 1, 18)]).length = p + 8 := gc_len1 ln11
  have S13_p := gc_gx (x := (true, 1, 18)) S11_p
  have S13_p1 := gc_gx (x := (true, 1, 18)) S11_p1
  have S13_p2 := gc_gx (x := (true, 1, 18)) S11_p2
  have S13_p3 := gc_gx (x := (true, 1, 18)) S11_p3
  have S13_p4 := gc_gx (x := (true, 1, 18)) S11_p4
  have S13_p5 := gc_gx (x := (true, 1, 18)) S11_p5
  have S13_p6 := gc_gx (x := (true, 1, 18)) S11_p6
  have S13_p7 := gc_gl (x := (true, 1, 18)) (p := (p + 7)) (by rw [ln11])
  have ok14 := gc_OKu (k := 13) (q := (p + 7)) ok13 S13_p rfl (by rw [ln13]; exact Nat.add_lt_add_left (by decide) p)
  have ok15 := gc_OKx (x := (true, 1, 18)) ok14 (fun k => Nat.le_of_ble_eq_true rfl)
  have ln15 : ((((((((sh ++ [(true, 1, 6)]) ++ [(true, 1, 6)]) ++ [(true, 1, 6)]) ++ [(true, 1, 4)]) ++ [(true, 1, 4)]) ++ [(true, 1, 4)]) ++ [(true, 1, 18)]) ++ [(true, 1, 18)]).length = p + 9 := gc_len1 ln13
  have S15_p := gc_gx (x := (true, 1, 18)) S13_p
  have S15_p1 := gc_gx (x := (true, 1, 18)) S13_p1
  have S15_p2 := gc_gx (x := (true, 1, 18)) S13_p2
  have S15_p3 := gc_gx (x := (true, 1, 18)) S13_p3
  have S15_p4 := gc_gx (x := (true, 1, 18)) S13_p4
  have S15_p5 := gc_gx (x := (true, 1, 18)) S13_p5
  have S15_p6 := gc_gx (x := (true, 1, 18)) S13_p6
  have S15_p7 := gc_gx (x := (true, 1, 18)) S13_p7
  have S15_p8 := gc_gl (x := (true, 1, 18)) (p := (p + 8)) (by rw [ln13])
  have ok16 := gc_OKu (k := 15) (q := (p + 8)) ok15 S15_p rfl (by rw [ln15]; exact Nat.add_lt_add_left (by decide) p)
  exact ok16
theorem m_X4_init {ws0 : List Cond} {tb : String → gz_T} (hw : gc_Wn ws0) (hws : gc_Ws ws0) (htb : gc_tbs tb) (d : Nat) {sh : gz_Sh} {I : gr_I} {J : gr_J} {A : gc_A} {p : Nat} {n : Nat} (hn : n ≤ 60000000) (hl0 : sh.length = p + 1) (hB : p + 2 ≤ 1000000) (hs : sh[p]? = some (false, 4, 2)) (hok : gc_OK sh I J A) : gz_Ev ws0 tb (d + 1) (yX4_init, cX4_init, 2, none) [.inr (.inr (some p)), .inl (n : Int)] sh (gc_h sh I J A) none (sh ++ [(true, 2, n)]) (gc_h (sh ++ [(true, 2, n)]) I J (gc_u A p 0 (some (p + 1)))) 1 (n) := by
  have ok1 := gc_OKx (x := (true, 2, n)) hok (fun k => Nat.le_of_ble_eq_true rfl)
  have ln1 : (sh ++ [(true, 2, n)]).length = p + 2 := gc_len1 hl0
  have S1_p := gc_gx (x := (true, 2, n)) hs
  have S1_p1 := gc_gl (x := (true, 2, n)) (p := (p + 1)) (by rw [hl0])
  have ok2 := gc_OKu (k := 0) (q := (p + 1)) ok1 S1_p rfl (by rw [ln1]; exact Nat.add_lt_add_left (by decide) p)
  have hD : gv_D (gc_Ei4 ws0 tb (d + 0) (yX4_init, cX4_init, 2, none) kX4_init) := gq_of oX4_init
  refine gv_evYi rfl (code := kX4_init) (Nat.le_of_ble_eq_true rfl) ?_
  show gv_Y (ws0, RX4, gz_fi (tb RX4), _) _ _
  rw [gc_tb4 htb]
  show gv_Y (gc_Ei4 ws0 tb (d + 0) (yX4_init, cX4_init, 2, none) kX4_init) _ (0, [(0, .inr (.inr (some p))), (1, .inl (n : Int))], [], sh, gc_h sh I J A)
  refine gv_lift (fun hk => gv_run 1 true hD (pcₚ := 1) (lvₚ := [(0, .inr (.inr (some p))), (1, .inl (n : Int))]) (stₚ := [.inr (.inr (some p))]) (hₚ := gc_h sh I J A) (C := (True ∧ True)) rfl ⟨trivial, trivial⟩ hk) ?_
  refine gc_Yobj hD (ix := 3) rfl (Nat.le_of_ble_eq_true rfl) (hw.1 _ (List.mem_of_getElem? (i := 4) rfl)) (hw.1 _ (List.mem_of_getElem? (i := 1) rfl)) (hw.1 _ (List.mem_of_getElem? (i := 2) rfl)) ?_
  refine gv_lift (fun hk => gv_run 2 true hD (pcₚ := 6) (lvₚ := [(0, .inr (.inr (some p))), (1, .inl (n : Int))]) (stₚ := [.inl (n : Int), .inr (.inr (some p))]) (hₚ := gc_h sh I J A) (C := ((True ∧ True) ∧ True)) rfl ⟨⟨trivial, trivial⟩, trivial⟩ hk) ?_
  refine gc_Yarr hD (at_ := .long) (t := 2) (n := n) (r := (p + 1)) rfl rfl (hw.1 _ (List.mem_of_getElem? (i := 5) rfl)) hn (Nat.le_of_ble_eq_true rfl) (by rw [hl0]; exact Nat.lt_of_lt_of_le (show p + 1 < p + 2 from Nat.add_lt_add_left (by decide) p) hB) hok (gc_okc (Or.inl (by rw [hl0]; exact Nat.lt_add_of_pos_right (by decide))) (gc_okc trivial gc_ok0)) (gc_oks (Or.inl (by rw [hl0]; exact Nat.lt_add_of_pos_right (by decide))) gc_ok0) (by rw [hl0]) ?_
  refine gv_lift (fun hk => gv_put hD rfl rfl S1_p ⟨by decide, (Nat.lt_of_lt_of_le (show p < p + 2 from Nat.lt_add_of_pos_right (by decide)) hB)⟩ rfl trivial hk) ?_
  rw [gc_hUA S1_p rfl]
  exact gv_Yend ⟨Or.inl ⟨hD 11 _ rfl, rfl, rfl, rfl⟩, rfl, rfl, rfl, rfl⟩
theorem mo_X4_init {ws0 : List Cond} {tb : String → gz_T} (hw : gc_Wn ws0) (hws : gc_Ws ws0) (htb : gc_tbs tb) (d : Nat) {sh : gz_Sh} {I : gr_I} {J : gr_J} {A : gc_A} {p : Nat} {n : Nat} (hn : n ≤ 60000000) (hl0 : sh.length = p + 1) (hB : p + 2 ≤ 1000000) (hs : sh[p]? = some (false, 4, 2)) (hok : gc_OK sh I J A) : gc_OK (sh ++ [(true, 2, n)]) I J (gc_u A p 0 (some (p + 1))) := by
  have ok1 := gc_OKx (x := (true, 2, n)) hok (fun k => Nat.le_of_ble_eq_true rfl)
  have ln1 : (sh ++ [(true, 2, n)]).length = p + 2 := gc_len1 hl0
  have S1_p := gc_gx (x := (true, 2, n)) hs
  have S1_p1 := gc_gl (x := (true, 2, n)) (p := (p + 1)) (by rw [hl0])
  have ok2 := gc_OKu (k := 0) (q := (p + 1)) ok1 S1_p rfl (by rw [ln1]; exact Nat.add_lt_add_left (by decide) p)
  exact ok2
set_option maxHeartbeats 2000000 in
theorem m_X2_init {ws0 : List Cond} {tb : String → gz_T} (hw : gc_Wn ws0) (hws : gc_Ws ws0) (htb : gc_tbs tb) (d : Nat) {sh : gz_Sh} {I : gr_I} {J : gr_J} {A : gc_A} {p : Nat} {ro : Nat → Nat} (hI : gc_Inv ro I) (hr0 : ro p = 24) (hr4 : ro (p + 4) = 34) (hl0 : sh.length = p + 1) (hB : p + 8 ≤ 1000000) (hs : sh[p]? = some (false, 2, 10)) (h20 : 20 < sh.length) (hz6 : I p 6 = 0) (hok : gc_OKP gc_nu6 sh I J A p) : ∃ I2 : gr_I, gz_Ev ws0 tb (d + 2) (yX2_init, cX2_init, 2, none) [.inr (.inr (some p)), .inr (.inr (some 20))] sh (gc_hP gc_nu6 sh I J A p) none (((((((sh ++ [(true, 0, 36864)]) ++ [(true, 1, 1536)]) ++ [(true, 1, 1536)]) ++ [(true, 1, 512)]) ++ [(true, 1, 1536)]) ++ [(true, 0, 24)]) ++ [(true, 0, 24)]) (gc_h (((((((sh ++ [(true, 0, 36864)]) ++ [(true, 1, 1536)]) ++ [(true, 1, 1536)]) ++ [(true, 1, 512)]) ++ [(true, 1, 1536)]) ++ [(true, 0, 24)]) ++ [(true, 0, 24)]) I2 J (gc_u (gc_u (gc_u (gc_u (gc_u (gc_u A p 1 (some (p + 1))) p 2 (some (p + 2))) p 3 (some (p + 3))) p 4 (some (p + 4))) p 5 (some (p + 5))) p 0 (some 20))) 7 (42032) ∧ gc_Inv ro I2 ∧ (∀ q j : Nat, ((q = p ∧ j = 7) ∨ q = p + 4) ∨ I2 q j = I q j) ∧ I2 p 7 = 1 ∧ (∀ j, j < 512 → I2 (p + 4) j = -1) ∧ gc_OK (((((((sh ++ [(true, 0, 36864)]) ++ [(true, 1, 1536)]) ++ [(true, 1, 1536)]) ++ [(true, 1, 512)]) ++ [(true, 1, 1536)]) ++ [(true, 0, 24)]) ++ [(true, 0, 24)]) I2 J (gc_u (gc_u (gc_u (gc_u (gc_u (gc_u A p 1 (some (p + 1))) p 2 (some (p + 2))) p 3 (some (p + 3))) p 4 (some (p + 4))) p 5 (some (p + 5))) p 0 (some 20)) := by
  have h20p : 20 < p + 1 := by rw [← hl0]; exact h20
  have ok1 := gc_OKPx (x := (true, 0, 36864)) hok (by rw [hl0]; exact Nat.lt_add_of_pos_right (by decide)) (fun k => Nat.le_of_ble_eq_true rfl)
  have ln1 : (sh ++ [(true, 0, 36864)]).length = p + 2 := gc_len1 hl0
  have S1_p := gc_gx (x := (true, 0, 36864)) hs
  have S1_p1 := gc_gl (x := (true, 0, 36864)) (p := (p + 1)) (by rw [hl0])
  have ok2 := gc_OKPu (k := 1) (q := (p + 1)) ok1 S1_p rfl rfl (by rw [ln1]; exact Nat.add_lt_add_left (by decide) p)
  have ok3 := gc_OKPx (x := (true, 1, 1536)) ok2 (by rw [ln1]; exact Nat.lt_add_of_pos_right (by decide)) (fun k => Nat.le_of_ble_eq_true rfl)
  have ln3 : ((sh ++ [(true, 0, 36864)]) ++ [(true, 1, 1536)]).length = p + 3 := gc_len1 ln1
  have S3_p := gc_gx (x := (true, 1, 1536)) S1_p
  have S3_p1 := gc_gx (x := (true, 1, 1536)) S1_p1
  have S3_p2 := gc_gl (x := (true, 1, 1536)) (p := (p + 2)) (by rw [ln1])
  have ok4 := gc_OKPu (k := 2) (q := (p + 2)) ok3 S3_p rfl rfl (by rw [ln3]; exact Nat.add_lt_add_left (by decide) p)
  have ok5 := gc_OKPx (x := (true, 1, 1536)) ok4 (by rw [ln3]; exact Nat.lt_add_of_pos_right (by decide)) (fun k => Nat.le_of_ble_eq_true rfl)
  have ln5 : (((sh ++ [(true, 0, 36864)]) ++ [(true, 1, 1536)]) ++ [(true, 1, 1536)]).length = p + 4 := gc_len1 ln3
  have S5_p := gc_gx (x := (true, 1, 1536)) S3_p
  have S5_p1 := gc_gx (x := (true, 1, 1536)) S3_p1
  have S5_p2 := gc_gx (x := (true, 1, 1536)) S3_p2
  have S5_p3 := gc_gl (x := (true, 1, 1536)) (p := (p + 3)) (by rw [ln3])
  have ok6 := gc_OKPu (k := 3) (q := (p + 3)) ok5 S5_p rfl rfl (by rw [ln5]; exact Nat.add_lt_add_left (by decide) p)
  have ok7 := gc_OKPx (x := (true, 1, 512)) ok6 (by rw [ln5]; exact Nat.lt_add_of_pos_right (by decide)) (fun k => Nat.le_of_ble_eq_true rfl)
  have ln7 : ((((sh ++ [(true, 0, 36864)]) ++ [(true, 1, 1536)]) ++ [(true, 1, 1536)]) ++ [(true, 1, 512)]).length = p + 5 := gc_len1 ln5
  have S7_p := gc_gx (x := (true, 1, 512)) S5_p
  have S7_p1 := gc_gx (x := (true, 1, 512)) S5_p1
  have S7_p2 := gc_gx (x := (true, 1, 512)) S5_p2
  have S7_p3 := gc_gx (x := (true, 1, 512)) S5_p3
  have S7_p4 := gc_gl (x := (true, 1, 512)) (p := (p + 4)) (by rw [ln5])
  have ok8 := gc_OKPu (k := 4) (q := (p + 4)) ok7 S7_p rfl rfl (by rw [ln7]; exact Nat.add_lt_add_left (by decide) p)
  have ok9 := gc_OKPx (x := (true, 1, 1536)) ok8 (by rw [ln7]; exact Nat.lt_add_of_pos_right (by decide)) (fun k => Nat.le_of_ble_eq_true rfl)
  have ln9 : (((((sh ++ [(true, 0, 36864)]) ++ [(true, 1, 1536)]) ++ [(true, 1, 1536)]) ++ [(true, 1, 512)]) ++ [(true, 1, 1536)]).length = p + 6 := gc_len1 ln7
  have S9_p := gc_gx (x := (true, 1, 1536)) S7_p
  have S9_p1 := gc_gx (x := (true, 1, 1536)) S7_p1
  have S9_p2 := gc_gx (x := (true, 1, 1536)) S7_p2
  have S9_p3 := gc_gx (x := (true, 1, 1536)) S7_p3
  have S9_p4 := gc_gx (x := (true, 1, 1536)) S7_p4
  have S9_p5 := gc_gl (x := (true, 1, 1536)) (p := (p + 5)) (by rw [ln7])
  have ok10 := gc_OKPu (k := 5) (q := (p + 5)) ok9 S9_p rfl rfl (by rw [ln9]; exact Nat.add_lt_add_left (by decide) p)
  have ok11 := gc_OKPx (x := (true, 0, 24)) ok10 (by rw [ln9]; exact Nat.lt_add_of_pos_right (by decide)) (fun k => Nat.le_of_ble_eq_true rfl)
  have ln11 : ((((((sh ++ [(true, 0, 36864)]) ++ [(true, 1, 1536)]) ++ [(true, 1, 1536)]) ++ [(true, 1, 512)]) ++ [(true, 1, 1536)]) ++ [(true, 0, 24)]).length = p + 7 := gc_len1 ln9
  have S11_p := gc_gx (x := (true, 0, 24)) S9_p
  have S11_p1 := gc_gx (x := (true, 0, 24)) S9_p1
  have S11_p2 := gc_gx (x := (true, 0, 24)) S9_p2
  have S11_p3 := gc_gx (x := (true, 0, 24)) S9_p3
  have S11_p4 := gc_gx (x := (true, 0, 24)) S9_p4
  have S11_p5 := gc_gx (x := (true, 0, 24)) S9_p5
  have S11_p6 := gc_gl (x := (true, 0, 24)) (p := (p + 6)) (by rw [ln9])
  have ok12 : gc_OKP gc_nu7 ((((((sh ++ [(true, 0, 36864)]) ++ [(true, 1, 1536)]) ++ [(true, 1, 1536)]) ++ [(true, 1, 512)]) ++ [(true, 1, 1536)]) ++ [(true, 0, 24)]) I J (gc_u (gc_u (gc_u (gc_u (gc_u A p 1 (some (p + 1))) p 2 (some (p + 2))) p 3 (some (p + 3))) p 4 (some (p + 4))) p 5 (some (p + 5))) p := gc_OKPset (k := 6) ok11 gc_nu76 rfl (gc_h6 (r := p + 6) S11_p (by rw [hz6]; rfl)) (by rw [ln11]; exact Nat.add_lt_add_left (by decide) p)
  have ok13 := gc_OKPx (x := (true, 0, 24)) ok12 (by rw [ln11]; exact Nat.lt_add_of_pos_right (by decide)) (fun k => Nat.le_of_ble_eq_true rfl)
  have ln13 : (((((((sh ++ [(true, 0, 36864)]) ++ [(true, 1, 1536)]) ++ [(true, 1, 1536)]) ++ [(true, 1, 512)]) ++ [(true, 1, 1536)]) ++ [(true, 0, 24)]) ++ [(true, 0, 24)]).length = p + 8 := gc_len1 ln11
  have S13_p := gc_gx (x := (true, 0, 24)) S11_p
  have S13_p1 := gc_gx (x := (true, 0, 24)) S11_p1
  have S13_p2 := gc_gx (x := (true, 0, 24)) S11_p2
  have S13_p3 := gc_gx (x := (true, 0, 24)) S11_p3
  have S13_p4 := gc_gx (x := (true, 0, 24)) S11_p4
  have S13_p5 := gc_gx (x := (true, 0, 24)) S11_p5
  have S13_p6 := gc_gx (x := (true, 0, 24)) S11_p6
  have S13_p7 := gc_gl (x := (true, 0, 24)) (p := (p + 7)) (by rw [ln11])
  have ok14 : gc_OK (((((((sh ++ [(true, 0, 36864)]) ++ [(true, 1, 1536)]) ++ [(true, 1, 1536)]) ++ [(true, 1, 512)]) ++ [(true, 1, 1536)]) ++ [(true, 0, 24)]) ++ [(true, 0, 24)]) (gr_u I p 7 1) J (gc_u (gc_u (gc_u (gc_u (gc_u A p 1 (some (p + 1))) p 2 (some (p + 2))) p 3 (some (p + 3))) p 4 (some (p + 4))) p 5 (some (p + 5))) := gc_OKP0 (f := fun _ => false) (p := p) (gc_OKPset (k := 7) (gc_OKPI (k := 7) (z := 1) ok13 rfl (by rw [ln13]; exact Nat.lt_add_of_pos_right (by decide))) gc_nu70 rfl (gc_h7 (r := p + 7) S13_p (by rw [gr_u_eq]; rfl)) (by rw [ln13]; exact Nat.add_lt_add_left (by decide) p)) (fun _ => rfl)
  have ok15 := gc_OKu (k := 0) (q := 20) ok14 S13_p rfl (by rw [ln13]; exact Nat.lt_of_lt_of_le h20p (Nat.add_le_add_left (by decide) p))
  have hI1 : gc_Inv ro (gr_u I p 7 1) := gc_Invu hI hr0 rfl rfl ⟨by decide, by decide⟩
  obtain ⟨I2, E2, hI2, g2, q2⟩ := gj_fill (ws0 := ws0) (tb := tb) (((((((sh ++ [(true, 0, 36864)]) ++ [(true, 1, 1536)]) ++ [(true, 1, 1536)]) ++ [(true, 1, 512)]) ++ [(true, 1, 1536)]) ++ [(true, 0, 24)]) ++ [(true, 0, 24)]) ro (gr_u I p 7 1) J (gc_u (gc_u (gc_u (gc_u (gc_u (gc_u A p 1 (some (p + 1))) p 2 (some (p + 2))) p 3 (some (p + 3))) p 4 (some (p + 4))) p 5 (some (p + 5))) p 0 (some 20)) hI1 (p + 4) 512 (-1) S13_p4 (Nat.lt_of_lt_of_le (show p + 4 < p + 8 from Nat.add_lt_add_left (by decide) p) hB) (by decide) ⟨by decide, by decide⟩ (fun k => by rw [hr4]; exact ⟨by show (-1 : Int) ≤ _; decide, by show (-1 : Int) ≤ 1535; decide⟩)
  have ok16 := gc_OK_fr ok15 (Iₚ := I2) (Jₚ := J) (fun q j => (g2 q j).imp (fun h => by subst h; exact ⟨by rw [ln13]; exact Nat.add_lt_add_left (by decide) p, gc_tyx S13_p4⟩) id) (fun q j => Or.inr rfl)
  have hfr : ∀ q j : Nat, ((q = p ∧ j = 7) ∨ q = p + 4) ∨ I2 q j = I q j := fun q j => (g2 q j).elim (fun h => Or.inl (Or.inr h)) (fun h => by
    by_cases e : q = p ∧ j = 7
    · exact Or.inl (Or.inl e)
    · exact Or.inr (h.trans (gr_u_ne I _ e)))
  have h71 : I2 p 7 = 1 := ((g2 p 7).resolve_left (by omega)).trans (gr_u_eq I p 7 1)
  refine ⟨I2, ?_, hI2, hfr, h71, q2, ok16⟩
  have hD : gv_D (gc_Ei2 ws0 tb (d + 1) (yX2_init, cX2_init, 2, none) kX2_init) := gq_of oX2_init
  refine gv_evYi rfl (code := kX2_init) (Nat.le_of_ble_eq_true rfl) ?_
  show gv_Y (ws0, RX2, gz_fi (tb RX2), _) _ _
  rw [gc_tb2 htb]
  show gv_Y (gc_Ei2 ws0 tb (d + 1) (yX2_init, cX2_init, 2, none) kX2_init) _ (0, [(0, .inr (.inr (some p))), (1, .inr (.inr (some 20)))], [], sh, gc_hP gc_nu6 sh I J A p)
  refine gv_lift (fun hk => gv_run 1 true hD (pcₚ := 1) (lvₚ := [(0, .inr (.inr (some p))), (1, .inr (.inr (some 20)))]) (stₚ := [.inr (.inr (some p))]) (hₚ := gc_hP gc_nu6 sh I J A p) (C := (True ∧ True)) rfl ⟨trivial, trivial⟩ hk) ?_
  refine gc_Yobj hD (ix := 3) rfl (Nat.le_of_ble_eq_true rfl) (hw.1 _ (List.mem_of_getElem? (i := 6) rfl)) (hw.1 _ (List.mem_of_getElem? (i := 1) rfl)) (hw.1 _ (List.mem_of_getElem? (i := 2) rfl)) ?_
  refine gv_lift (fun hk => gv_run 2 true hD (pcₚ := 7) (lvₚ := [(0, .inr (.inr (some p))), (1, .inr (.inr (some 20)))]) (stₚ := [.inl 36864, .inr (.inr (some p))]) (hₚ := gc_hP gc_nu6 sh I J A p) (C := ((True ∧ True) ∧ True)) rfl ⟨⟨trivial, trivial⟩, trivial⟩ hk) ?_
  show gv_Y _ _ (_, _, .inl ((36864 : Nat) : Int) :: _, _, _)
  refine gc_YarrP hD (at_ := .byte) (t := 0) (n := 36864) (r := (p + 1)) rfl rfl (hw.1 _ (List.mem_of_getElem? (i := 7) rfl)) (Nat.le_of_ble_eq_true rfl) (Nat.le_of_ble_eq_true rfl) (by rw [hl0]; exact Nat.lt_of_lt_of_le (show p + 1 < p + 8 from Nat.add_lt_add_left (by decide) p) hB) (by rw [hl0]; exact Nat.lt_add_of_pos_right (by decide)) hok (gc_okc (Or.inl (by rw [hl0]; exact Nat.lt_add_of_pos_right (by decide))) (gc_okc (Or.inl (by rw [hl0]; exact Nat.lt_of_lt_of_le h20p (Nat.add_le_add_left (by decide) p))) gc_ok0)) (gc_oks (Or.inl (by rw [hl0]; exact Nat.lt_add_of_pos_right (by decide))) gc_ok0) (by rw [hl0]) ?_
  refine gv_lift (fun hk => gv_put hD rfl rfl S1_p ⟨by decide, (Nat.lt_of_lt_of_le (show p < p + 8 from Nat.lt_add_of_pos_right (by decide)) hB)⟩ rfl trivial hk) ?_
  rw [gc_hPA S1_p rfl rfl]
  refine gv_lift (fun hk => gv_run 2 true hD (pcₚ := 16) (lvₚ := [(0, .inr (.inr (some p))), (1, .inr (.inr (some 20)))]) (stₚ := [.inl 1536, .inr (.inr (some p))]) (hₚ := gc_hP gc_nu6 (sh ++ [(true, 0, 36864)]) I J (gc_u A p 1 (some (p + 1))) p) (C := ((True ∧ True) ∧ True)) rfl ⟨⟨trivial, trivial⟩, trivial⟩ hk) ?_
  show gv_Y _ _ (_, _, .inl ((1536 : Nat) : Int) :: _, _, _)
  refine gc_YarrP hD (at_ := .int) (t := 1) (n := 1536) (r := (p + 2)) rfl rfl (hw.1 _ (List.mem_of_getElem? (i := 3) rfl)) (Nat.le_of_ble_eq_true rfl) (Nat.le_of_ble_eq_true rfl) (by rw [ln1]; exact Nat.lt_of_lt_of_le (show p + 2 < p + 8 from Nat.add_lt_add_left (by decide) p) hB) (by rw [ln1]; exact Nat.lt_add_of_pos_right (by decide)) ok2 (gc_okc (Or.inl (by rw [ln1]; exact Nat.lt_add_of_pos_right (by decide))) (gc_okc (Or.inl (by rw [ln1]; exact Nat.lt_of_lt_of_le h20p (Nat.add_le_add_left (by decide) p))) gc_ok0)) (gc_oks (Or.inl (by rw [ln1]; exact Nat.lt_add_of_pos_right (by decide))) gc_ok0) (by rw [ln1]) ?_
  refine gv_lift (fun hk => gv_put hD rfl rfl S3_p ⟨by decide, (Nat.lt_of_lt_of_le (show p < p + 8 from Nat.lt_add_of_pos_right (by decide)) hB)⟩ rfl trivial hk) ?_
  rw [gc_hPA S3_p rfl rfl]
  refine gv_lift (fun hk => gv_run 2 true hD (pcₚ := 25) (lvₚ := [(0, .inr (.inr (some p))), (1, .inr (.inr (some 20)))]) (stₚ := [.inl 1536, .inr (.inr (some p))]) (hₚ := gc_hP gc_nu6 ((sh ++ [(true, 0, 36864)]) ++ [(true, 1, 1536)]) I J (gc_u (gc_u A p 1 (some (p + 1))) p 2 (some (p + 2))) p) (C := ((True ∧ True) ∧ True)) rfl ⟨⟨trivial, trivial⟩, trivial⟩ hk) ?_
  show gv_Y _ _ (_, _, .inl ((1536 : Nat) : Int) :: _, _, _)
  refine gc_YarrP hD (at_ := .int) (t := 1) (n := 1536) (r := (p + 3)) rfl rfl (hw.1 _ (List.mem_of_getElem? (i := 3) rfl)) (Nat.le_of_ble_eq_true rfl) (Nat.le_of_ble_eq_true rfl) (by rw [ln3]; exact Nat.lt_of_lt_of_le (show p + 3 < p + 8 from Nat.add_lt_add_left (by decide) p) hB) (by rw [ln3]; exact Nat.lt_add_of_pos_right (by decide)) ok4 (gc_okc (Or.inl (by rw [ln3]; exact Nat.lt_add_of_pos_right (by decide))) (gc_okc (Or.inl (by rw [ln3]; exact Nat.lt_of_lt_of_le h20p (Nat.add_le_add_left (by decide) p))) gc_ok0)) (gc_oks (Or.inl (by rw [ln3]; exact Nat.lt_add_of_pos_right (by decide))) gc_ok0) (by rw [ln3]) ?_
  refine gv_lift (fun hk => gv_put hD rfl rfl S5_p ⟨by decide, (Nat.lt_of_lt_of_le (show p < p + 8 from Nat.lt_add_of_pos_right (by decide)) hB)⟩ rfl trivial hk) ?_
  rw [gc_hPA S5_p rfl rfl]
  refine gv_lift (fun hk => gv_run 2 true hD (pcₚ := 34) (lvₚ := [(0, .inr (.inr (some p))), (1, .inr (.inr (some 20)))]) (stₚ := [.inl 512, .inr (.inr (some p))]) (hₚ := gc_hP gc_nu6 (((sh ++ [(true, 0, 36864)]) ++ [(true, 1, 1536)]) ++ [(true, 1, 1536)]) I J (gc_u (gc_u (gc_u A p 1 (some (p + 1))) p 2 (some (p + 2))) p 3 (some (p + 3))) p) (C := ((True ∧ True) ∧ True)) rfl ⟨⟨trivial, trivial⟩, trivial⟩ hk) ?_
  show gv_Y _ _ (_, _, .inl ((512 : Nat) : Int) :: _, _, _)
  refine gc_YarrP hD (at_ := .int) (t := 1) (n := 512) (r := (p + 4)) rfl rfl (hw.1 _ (List.mem_of_getElem? (i := 3) rfl)) (Nat.le_of_ble_eq_true rfl) (Nat.le_of_ble_eq_true rfl) (by rw [ln5]; exact Nat.lt_of_lt_of_le (show p + 4 < p + 8 from Nat.add_lt_add_left (by decide) p) hB) (by rw [ln5]; exact Nat.lt_add_of_pos_right (by decide)) ok6 (gc_okc (Or.inl (by rw [ln5]; exact Nat.lt_add_of_pos_right (by decide))) (gc_okc (Or.inl (by rw [ln5]; exact Nat.lt_of_lt_of_le h20p (Nat.add_le_add_left (by decide) p))) gc_ok0)) (gc_oks (Or.inl (by rw [ln5]; exact Nat.lt_add_of_pos_right (by decide))) gc_ok0) (by rw [ln5]) ?_
  refine gv_lift (fun hk => gv_put hD rfl rfl S7_p ⟨by decide, (Nat.lt_of_lt_of_le (show p < p + 8 from Nat.lt_add_of_pos_right (by decide)) hB)⟩ rfl trivial hk) ?_
  rw [gc_hPA S7_p rfl rfl]
  refine gv_lift (fun hk => gv_run 2 true hD (pcₚ := 43) (lvₚ := [(0, .inr (.inr (some p))), (1, .inr (.inr (some 20)))]) (stₚ := [.inl 1536, .inr (.inr (some p))]) (hₚ := gc_hP gc_nu6 ((((sh ++ [(true, 0, 36864)]) ++ [(true, 1, 1536)]) ++ [(true, 1, 1536)]) ++ [(true, 1, 512)]) I J (gc_u (gc_u (gc_u (gc_u A p 1 (some (p + 1))) p 2 (some (p + 2))) p 3 (some (p + 3))) p 4 (some (p + 4))) p) (C := ((True ∧ True) ∧ True)) rfl ⟨⟨trivial, trivial⟩, trivial⟩ hk) ?_
  show gv_Y _ _ (_, _, .inl ((1536 : Nat) : Int) :: _, _, _)
  refine gc_YarrP hD (at_ := .int) (t := 1) (n := 1536) (r := (p + 5)) rfl rfl (hw.1 _ (List.mem_of_getElem? (i := 3) rfl)) (Nat.le_of_ble_eq_true rfl) (Nat.le_of_ble_eq_true rfl) (by rw [ln7]; exact Nat.lt_of_lt_of_le (show p + 5 < p + 8 from Nat.add_lt_add_left (by decide) p) hB) (by rw [ln7]; exact Nat.lt_add_of_pos_right (by decide)) ok8 (gc_okc (Or.inl (by rw [ln7]; exact Nat.lt_add_of_pos_right (by decide))) (gc_okc (Or.inl (by rw [ln7]; exact Nat.lt_of_lt_of_le h20p (Nat.add_le_add_left (by decide) p))) gc_ok0)) (gc_oks (Or.inl (by rw [ln7]; exact Nat.lt_add_of_pos_right (by decide))) gc_ok0) (by rw [ln7]) ?_
  refine gv_lift (fun hk => gv_put hD rfl rfl S9_p ⟨by decide, (Nat.lt_of_lt_of_le (show p < p + 8 from Nat.lt_add_of_pos_right (by decide)) hB)⟩ rfl trivial hk) ?_
  rw [gc_hPA S9_p rfl rfl]
  refine gv_lift (fun hk => gv_run 2 true hD (pcₚ := 51) (lvₚ := [(0, .inr (.inr (some p))), (1, .inr (.inr (some 20)))]) (stₚ := [.inl 24, .inr (.inr (some p))]) (hₚ := gc_hP gc_nu6 (((((sh ++ [(true, 0, 36864)]) ++ [(true, 1, 1536)]) ++ [(true, 1, 1536)]) ++ [(true, 1, 512)]) ++ [(true, 1, 1536)]) I J (gc_u (gc_u (gc_u (gc_u (gc_u A p 1 (some (p + 1))) p 2 (some (p + 2))) p 3 (some (p + 3))) p 4 (some (p + 4))) p 5 (some (p + 5))) p) (C := ((True ∧ True) ∧ True)) rfl ⟨⟨trivial, trivial⟩, trivial⟩ hk) ?_
  show gv_Y _ _ (_, _, .inl ((24 : Nat) : Int) :: _, _, _)
  refine gc_YarrP hD (at_ := .byte) (t := 0) (n := 24) (r := (p + 6)) rfl rfl (hw.1 _ (List.mem_of_getElem? (i := 7) rfl)) (Nat.le_of_ble_eq_true rfl) (Nat.le_of_ble_eq_true rfl) (by rw [ln9]; exact Nat.lt_of_lt_of_le (show p + 6 < p + 8 from Nat.add_lt_add_left (by decide) p) hB) (by rw [ln9]; exact Nat.lt_add_of_pos_right (by decide)) ok10 (gc_okc (Or.inl (by rw [ln9]; exact Nat.lt_add_of_pos_right (by decide))) (gc_okc (Or.inl (by rw [ln9]; exact Nat.lt_of_lt_of_le h20p (Nat.add_le_add_left (by decide) p))) gc_ok0)) (gc_oks (Or.inl (by rw [ln9]; exact Nat.lt_add_of_pos_right (by decide))) gc_ok0) (by rw [ln9]) ?_
  refine gv_lift (fun hk => gv_put hD rfl rfl S11_p ⟨by decide, (Nat.lt_of_lt_of_le (show p < p + 8 from Nat.lt_add_of_pos_right (by decide)) hB)⟩ rfl trivial hk) ?_
  rw [gc_hPset (g := gc_nu7) rfl gc_nu76 rfl (gc_h6 S11_p (by rw [hz6]; rfl))]
  refine gv_lift (fun hk => gv_run 2 true hD (pcₚ := 59) (lvₚ := [(0, .inr (.inr (some p))), (1, .inr (.inr (some 20)))]) (stₚ := [.inl 24, .inr (.inr (some p))]) (hₚ := gc_hP gc_nu7 ((((((sh ++ [(true, 0, 36864)]) ++ [(true, 1, 1536)]) ++ [(true, 1, 1536)]) ++ [(true, 1, 512)]) ++ [(true, 1, 1536)]) ++ [(true, 0, 24)]) I J (gc_u (gc_u (gc_u (gc_u (gc_u A p 1 (some (p + 1))) p 2 (some (p + 2))) p 3 (some (p + 3))) p 4 (some (p + 4))) p 5 (some (p + 5))) p) (C := ((True ∧ True) ∧ True)) rfl ⟨⟨trivial, trivial⟩, trivial⟩ hk) ?_
  show gv_Y _ _ (_, _, .inl ((24 : Nat) : Int) :: _, _, _)
  refine gc_YarrP hD (at_ := .byte) (t := 0) (n := 24) (r := (p + 7)) rfl rfl (hw.1 _ (List.mem_of_getElem? (i := 7) rfl)) (Nat.le_of_ble_eq_true rfl) (Nat.le_of_ble_eq_true rfl) (by rw [ln11]; exact Nat.lt_of_lt_of_le (show p + 7 < p + 8 from Nat.add_lt_add_left (by decide) p) hB) (by rw [ln11]; exact Nat.lt_add_of_pos_right (by decide)) ok12 (gc_okc (Or.inl (by rw [ln11]; exact Nat.lt_add_of_pos_right (by decide))) (gc_okc (Or.inl (by rw [ln11]; exact Nat.lt_of_lt_of_le h20p (Nat.add_le_add_left (by decide) p))) gc_ok0)) (gc_oks (Or.inl (by rw [ln11]; exact Nat.lt_add_of_pos_right (by decide))) gc_ok0) (by rw [ln11]) ?_
  refine gv_lift (fun hk => gv_put hD rfl rfl S13_p ⟨by decide, (Nat.lt_of_lt_of_le (show p < p + 8 from Nat.lt_add_of_pos_right (by decide)) hB)⟩ rfl trivial hk) ?_
  rw [gc_hPI (k := 7) (z := 1) rfl, gc_hPset (g := fun _ => false) rfl gc_nu70 rfl (gc_h7 S13_p (by rw [gr_u_eq]; rfl)), gc_hP0 (fun _ => rfl)]
  refine gv_lift (fun hk => gv_run 2 true hD (pcₚ := 66) (lvₚ := [(0, .inr (.inr (some p))), (1, .inr (.inr (some 20)))]) (stₚ := [.inr (.inr (some 20)), .inr (.inr (some p))]) (hₚ := gc_h (((((((sh ++ [(true, 0, 36864)]) ++ [(true, 1, 1536)]) ++ [(true, 1, 1536)]) ++ [(true, 1, 512)]) ++ [(true, 1, 1536)]) ++ [(true, 0, 24)]) ++ [(true, 0, 24)]) (gr_u I p 7 1) J (gc_u (gc_u (gc_u (gc_u (gc_u A p 1 (some (p + 1))) p 2 (some (p + 2))) p 3 (some (p + 3))) p 4 (some (p + 4))) p 5 (some (p + 5)))) (C := ((True ∧ True) ∧ True)) rfl ⟨⟨trivial, trivial⟩, trivial⟩ hk) ?_
  refine gv_lift (fun hk => gv_put hD rfl rfl S13_p ⟨by decide, (Nat.lt_of_lt_of_le (show p < p + 8 from Nat.lt_add_of_pos_right (by decide)) hB)⟩ rfl trivial hk) ?_
  rw [gc_hUA S13_p rfl]
  refine gv_lift (fun hk => gv_run 1 true hD (pcₚ := 70) (lvₚ := [(0, .inr (.inr (some p))), (1, .inr (.inr (some 20)))]) (stₚ := [.inr (.inr (some p))]) (hₚ := gc_h (((((((sh ++ [(true, 0, 36864)]) ++ [(true, 1, 1536)]) ++ [(true, 1, 1536)]) ++ [(true, 1, 512)]) ++ [(true, 1, 1536)]) ++ [(true, 0, 24)]) ++ [(true, 0, 24)]) (gr_u I p 7 1) J (gc_u (gc_u (gc_u (gc_u (gc_u (gc_u A p 1 (some (p + 1))) p 2 (some (p + 2))) p 3 (some (p + 3))) p 4 (some (p + 4))) p 5 (some (p + 5))) p 0 (some 20))) (C := (True ∧ True)) rfl ⟨trivial, trivial⟩ hk) ?_
  refine gv_lift (fun hk => gv_get hD rfl rfl S13_p ⟨by decide, (Nat.lt_of_lt_of_le (show p < p + 8 from Nat.lt_add_of_pos_right (by decide)) hB)⟩ (gc_hA S13_p rfl (show (gc_u (gc_u (gc_u (gc_u (gc_u (gc_u A p 1 (some (p + 1))) p 2 (some (p + 2))) p 3 (some (p + 3))) p 4 (some (p + 4))) p 5 (some (p + 5))) p 0 (some 20)) p 4 = some (p + 4) from by simp [gc_u])) hk) ?_
  refine gv_lift (fun hk => gv_run 1 true hD (pcₚ := 74) (lvₚ := [(0, .inr (.inr (some p))), (1, .inr (.inr (some 20)))]) (stₚ := [.inl ((-1)), .inr (.inr (some (p + 4)))]) (hₚ := gc_h (((((((sh ++ [(true, 0, 36864)]) ++ [(true, 1, 1536)]) ++ [(true, 1, 1536)]) ++ [(true, 1, 512)]) ++ [(true, 1, 1536)]) ++ [(true, 0, 24)]) ++ [(true, 0, 24)]) (gr_u I p 7 1) J (gc_u (gc_u (gc_u (gc_u (gc_u (gc_u A p 1 (some (p + 1))) p 2 (some (p + 2))) p 3 (some (p + 3))) p 4 (some (p + 4))) p 5 (some (p + 5))) p 0 (some 20))) (C := (True ∧ True)) rfl ⟨trivial, trivial⟩ hk) ?_
  refine gv_lift (fun hk => gv_callS hD rfl (As := [.inr (.inr (some (p + 4))), .inl ((-1))]) (st := []) rfl (gc_lS2 hws rfl) (Nat.le_of_ble_eq_true rfl) (gz_Ev_mono (d := 1) (by omega) E2) hk) ?_
  exact gv_Yend ⟨Or.inl ⟨hD 77 _ rfl, rfl, rfl, rfl⟩, rfl, rfl, rfl, rfl⟩
