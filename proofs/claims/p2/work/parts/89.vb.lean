def gc_wnl : List Cond := [Cond.methodLink RX3 3 objectInit, Cond.instanceMethod objectInit, Cond.code objectInit ⟨#[0xb1]⟩ 1 none, Cond.arrayClass (newarray.typeOf .int), Cond.methodLink RX4 3 objectInit, Cond.arrayClass (newarray.typeOf .long), Cond.instantiable RX3 16, Cond.instantiable RX4 2, Cond.instantiable RX2 10, Cond.instantiable RX11 16, Cond.initialized RX3, Cond.initialized RX4, Cond.initialized RX2, Cond.initialized RX11]
def gc_Wn (ws0 : List Cond) : Prop := (∀ w ∈ gc_wnl, w ∈ ws0) ∧ (∀ w ∈ u_ws RX3 TX3 16, w ∈ ws0) ∧ (∀ w ∈ u_ws RX4 TX4 2, w ∈ ws0) ∧ (∀ w ∈ u_ws RX2 TX2 10, w ∈ ws0) ∧ (∀ w ∈ u_ws RX11 TX11 16, w ∈ ws0)
theorem gc_lN3 {ws0 : List Cond} {own : String} {ix : Nat} (hw : gc_Wn ws0) (hc : Cond.classLink own ix RX3 ∈ ws0) : gz_lN ws0 own ix RX3 TX3 16 tyX3 := ⟨hw.2.1, hc, (hw.1 _ (List.mem_of_getElem? (i := 6) rfl)), (hw.1 _ (List.mem_of_getElem? (i := 10) rfl)), fun k hk => ⟨tyX3_ok k hk, (show ∀ k, k < 16 → gz_ndf (tyX3 k) = true from by decide +kernel) k hk⟩⟩
theorem gc_lN4 {ws0 : List Cond} {own : String} {ix : Nat} (hw : gc_Wn ws0) (hc : Cond.classLink own ix RX4 ∈ ws0) : gz_lN ws0 own ix RX4 TX4 2 tyX4 := ⟨hw.2.2.1, hc, (hw.1 _ (List.mem_of_getElem? (i := 7) rfl)), (hw.1 _ (List.mem_of_getElem? (i := 11) rfl)), fun k hk => ⟨tyX4_ok k hk, (show ∀ k, k < 2 → gz_ndf (tyX4 k) = true from by decide +kernel) k hk⟩⟩
theorem gc_lN2 {ws0 : List Cond} {own : String} {ix : Nat} (hw : gc_Wn ws0) (hc : Cond.classLink own ix RX2 ∈ ws0) : gz_lN ws0 own ix RX2 TX2 10 tyX2 := ⟨hw.2.2.2.1, hc, (hw.1 _ (List.mem_of_getElem? (i := 8) rfl)), (hw.1 _ (List.mem_of_getElem? (i := 12) rfl)), fun k hk => ⟨tyX2_ok k hk, (show ∀ k, k < 10 → gz_ndf (tyX2 k) = true from by decide +kernel) k hk⟩⟩
theorem gc_lN11 {ws0 : List Cond} {own : String} {ix : Nat} (hw : gc_Wn ws0) (hc : Cond.classLink own ix RX11 ∈ ws0) : gz_lN ws0 own ix RX11 TX11 16 tyX11 := ⟨hw.2.2.2.2, hc, (hw.1 _ (List.mem_of_getElem? (i := 9) rfl)), (hw.1 _ (List.mem_of_getElem? (i := 13) rfl)), fun k hk => ⟨tyX11_ok k hk, (show ∀ k, k < 16 → gz_ndf (tyX11 k) = true from by decide +kernel) k hk⟩⟩
theorem gc_dy3 {u : Nat} : ∀ k, k < 16 → gc_dvc u (gc_tx (false, 3, 16) k) = gz_dv (tyX3 k) := fun k hk => match k, hk with
  | 0, _ => rfl
  | 1, _ => rfl
  | 2, _ => rfl
  | 3, _ => rfl
  | 4, _ => rfl
  | 5, _ => rfl
  | 6, _ => rfl
  | 7, _ => rfl
  | 8, _ => rfl
  | 9, _ => rfl
  | 10, _ => rfl
  | 11, _ => rfl
  | 12, _ => rfl
  | 13, _ => rfl
  | 14, _ => rfl
  | 15, _ => rfl
  | _ + 16, h => absurd h (by omega)
theorem gc_dy4 {u : Nat} : ∀ k, k < 2 → gc_dvc u (gc_tx (false, 4, 2) k) = gz_dv (tyX4 k) := fun k hk => match k, hk with
  | 0, _ => rfl
  | 1, _ => rfl
  | _ + 2, h => absurd h (by omega)
theorem gc_dy11 {u : Nat} : ∀ k, k < 16 → gc_dvc u (gc_tx (false, 11, 16) k) = gz_dv (tyX11 k) := fun k hk => match k, hk with
  | 0, _ => rfl
  | 1, _ => rfl
  | 2, _ => rfl
  | 3, _ => rfl
  | 4, _ => rfl
  | 5, _ => rfl
  | 6, _ => rfl
  | 7, _ => rfl
  | 8, _ => rfl
  | 9, _ => rfl
  | 10, _ => rfl
  | 11, _ => rfl
  | 12, _ => rfl
  | 13, _ => rfl
  | 14, _ => rfl
  | 15, _ => rfl
  | _ + 16, h => absurd h (by omega)
theorem m_X3_init {ws0 : List Cond} {tb : String → gz_T} (hw : gc_Wn ws0) (hws : gc_Ws ws0) (htb : gc_tbs tb) (d : Nat) {sh : gz_Sh} {I : gr_I} {J : gr_J} {A : gc_A} {p : Nat} (hl0 : sh.length = p + 1) (hB : p + 9 ≤ 1000000) (hs : sh[p]? = some (false, 3, 16)) (hok : gc_OK sh I J A) : gz_Ev ws0 tb (d + 1) (yX3_init, cX3_init, 1, none) [.inr (.inr (some p))] sh (gc_h sh I J A) none ((((((((sh ++ [(true, 1, 6)]) ++ [(true, 1, 6)]) ++ [(true, 1, 6)]) ++ [(true, 1, 4)]) ++ [(true, 1, 4)]) ++ [(true, 1, 4)]) ++ [(true, 1, 18)]) ++ [(true, 1, 18)]) (gc_h ((((((((sh ++ [(true, 1, 6)]) ++ [(true, 1, 6)]) ++ [(true, 1, 6)]) ++ [(true, 1, 4)]) ++ [(true, 1, 4)]) ++ [(true, 1, 4)]) ++ [(true, 1, 18)]) ++ [(true, 1, 18)]) I J (gc_u (gc_u (gc_u (gc_u (gc_u (gc_u (gc_u (gc_u A p 5 (some (p + 1))) p 6 (some (p + 2))) p 7 (some (p + 3))) p 9 (some (p + 4))) p 10 (some (p + 5))) p 11 (some (p + 6))) p 13 (some (p + 7))) p 15 (some (p + 8)))) 8 (66) := by
  have hD : gv_D (gc_E3 ws0 tb (d + 0) (yX3_init, cX3_init, 1, none) kX3_init) := gq_ok oX3_init
  refine gv_evY (code := gq_c kX3_init) (Nat.le_of_ble_eq_true rfl) ?_
  show gv_Y (ws0, RX3, tb RX3, _) _ _
  rw [gc_tb3 htb]
  show gv_Y (gc_E3 ws0 tb (d + 0) (yX3_init, cX3_init, 1, none) kX3_init) _ (0, [(0, .inr (.inr (some p)))], [], sh, gc_h sh I J A)
  refine gv_lift (fun hk => gv_run 1 true hD (pc' := 1) (lv' := [(0, .inr (.inr (some p)))]) (st' := [.inr (.inr (some p))]) (h' := gc_h sh I J A) (C := (True ∧ True)) rfl ⟨trivial, trivial⟩ hk) ?_
  refine gc_Yobj hD (ix := 3) rfl (Nat.le_of_ble_eq_true rfl) (hw.1 _ (List.mem_of_getElem? (i := 0) rfl)) (hw.1 _ (List.mem_of_getElem? (i := 1) rfl)) (hw.1 _ (List.mem_of_getElem? (i := 2) rfl)) ?_
  refine gv_lift (fun hk => gv_run 2 true hD (pc' := 7) (lv' := [(0, .inr (.inr (some p)))]) (st' := [.inl 6, .inr (.inr (some p))]) (h' := gc_h sh I J A) (C := ((True ∧ True) ∧ True)) rfl ⟨⟨trivial, trivial⟩, trivial⟩ hk) ?_
  show gv_Y _ _ (_, _, .inl ((6 : Nat) : Int) :: _, _, _)
  refine gc_Yarr hD (at_ := .int) (t := 1) (n := 6) (r := (p + 1)) rfl rfl (hw.1 _ (List.mem_of_getElem? (i := 3) rfl)) (Nat.le_of_ble_eq_true rfl) (Nat.le_of_ble_eq_true rfl) (by rw [hl0]; omega) hok (gc_okc (Or.inl (by rw [hl0]; omega)) gc_ok0) (gc_oks (Or.inl (by rw [hl0]; omega)) gc_ok0) (by rw [hl0]) ?_
  have ok1 := gc_OKx (x := (true, 1, 6)) hok (fun k => Nat.le_of_ble_eq_true rfl)
  have ln1 : (sh ++ [(true, 1, 6)]).length = p + 2 := gc_len1 hl0
  have S1_p := gc_gx (x := (true, 1, 6)) hs
  have S1_p1 := gc_gl (x := (true, 1, 6)) (p := (p + 1)) (by rw [hl0])
  refine gv_lift (fun hk => gv_put hD rfl rfl S1_p ⟨by decide, by omega⟩ rfl trivial hk) ?_
  rw [gc_hUA S1_p rfl]
  have ok2 := gc_OKu (k := 5) (q := (p + 1)) ok1 S1_p rfl (by rw [ln1]; omega)
  refine gv_lift (fun hk => gv_run 2 true hD (pc' := 15) (lv' := [(0, .inr (.inr (some p)))]) (st' := [.inl 6, .inr (.inr (some p))]) (h' := gc_h (sh ++ [(true, 1, 6)]) I J (gc_u A p 5 (some (p + 1)))) (C := ((True ∧ True) ∧ True)) rfl ⟨⟨trivial, trivial⟩, trivial⟩ hk) ?_
  show gv_Y _ _ (_, _, .inl ((6 : Nat) : Int) :: _, _, _)
  refine gc_Yarr hD (at_ := .int) (t := 1) (n := 6) (r := (p + 2)) rfl rfl (hw.1 _ (List.mem_of_getElem? (i := 3) rfl)) (Nat.le_of_ble_eq_true rfl) (Nat.le_of_ble_eq_true rfl) (by rw [ln1]; omega) ok2 (gc_okc (Or.inl (by rw [ln1]; omega)) gc_ok0) (gc_oks (Or.inl (by rw [ln1]; omega)) gc_ok0) (by rw [ln1]) ?_
  have ok3 := gc_OKx (x := (true, 1, 6)) ok2 (fun k => Nat.le_of_ble_eq_true rfl)
  have ln3 : ((sh ++ [(true, 1, 6)]) ++ [(true, 1, 6)]).length = p + 3 := gc_len1 ln1
  have S3_p := gc_gx (x := (true, 1, 6)) S1_p
  have S3_p1 := gc_gx (x := (true, 1, 6)) S1_p1
  have S3_p2 := gc_gl (x := (true, 1, 6)) (p := (p + 2)) (by rw [ln1])
  refine gv_lift (fun hk => gv_put hD rfl rfl S3_p ⟨by decide, by omega⟩ rfl trivial hk) ?_
  rw [gc_hUA S3_p rfl]
  have ok4 := gc_OKu (k := 6) (q := (p + 2)) ok3 S3_p rfl (by rw [ln3]; omega)
  refine gv_lift (fun hk => gv_run 2 true hD (pc' := 23) (lv' := [(0, .inr (.inr (some p)))]) (st' := [.inl 6, .inr (.inr (some p))]) (h' := gc_h ((sh ++ [(true, 1, 6)]) ++ [(true, 1, 6)]) I J (gc_u (gc_u A p 5 (some (p + 1))) p 6 (some (p + 2)))) (C := ((True ∧ True) ∧ True)) rfl ⟨⟨trivial, trivial⟩, trivial⟩ hk) ?_
  show gv_Y _ _ (_, _, .inl ((6 : Nat) : Int) :: _, _, _)
  refine gc_Yarr hD (at_ := .int) (t := 1) (n := 6) (r := (p + 3)) rfl rfl (hw.1 _ (List.mem_of_getElem? (i := 3) rfl)) (Nat.le_of_ble_eq_true rfl) (Nat.le_of_ble_eq_true rfl) (by rw [ln3]; omega) ok4 (gc_okc (Or.inl (by rw [ln3]; omega)) gc_ok0) (gc_oks (Or.inl (by rw [ln3]; omega)) gc_ok0) (by rw [ln3]) ?_
  have ok5 := gc_OKx (x := (true, 1, 6)) ok4 (fun k => Nat.le_of_ble_eq_true rfl)
  have ln5 : (((sh ++ [(true, 1, 6)]) ++ [(true, 1, 6)]) ++ [(true, 1, 6)]).length = p + 4 := gc_len1 ln3
  have S5_p := gc_gx (x := (true, 1, 6)) S3_p
  have S5_p1 := gc_gx (x := (true, 1, 6)) S3_p1
  have S5_p2 := gc_gx (x := (true, 1, 6)) S3_p2
  have S5_p3 := gc_gl (x := (true, 1, 6)) (p := (p + 3)) (by rw [ln3])
  refine gv_lift (fun hk => gv_put hD rfl rfl S5_p ⟨by decide, by omega⟩ rfl trivial hk) ?_
  rw [gc_hUA S5_p rfl]
  have ok6 := gc_OKu (k := 7) (q := (p + 3)) ok5 S5_p rfl (by rw [ln5]; omega)
  refine gv_lift (fun hk => gv_run 2 true hD (pc' := 30) (lv' := [(0, .inr (.inr (some p)))]) (st' := [.inl 4, .inr (.inr (some p))]) (h' := gc_h (((sh ++ [(true, 1, 6)]) ++ [(true, 1, 6)]) ++ [(true, 1, 6)]) I J (gc_u (gc_u (gc_u A p 5 (some (p + 1))) p 6 (some (p + 2))) p 7 (some (p + 3)))) (C := ((True ∧ True) ∧ True)) rfl ⟨⟨trivial, trivial⟩, trivial⟩ hk) ?_
  show gv_Y _ _ (_, _, .inl ((4 : Nat) : Int) :: _, _, _)
  refine gc_Yarr hD (at_ := .int) (t := 1) (n := 4) (r := (p + 4)) rfl rfl (hw.1 _ (List.mem_of_getElem? (i := 3) rfl)) (Nat.le_of_ble_eq_true rfl) (Nat.le_of_ble_eq_true rfl) (by rw [ln5]; omega) ok6 (gc_okc (Or.inl (by rw [ln5]; omega)) gc_ok0) (gc_oks (Or.inl (by rw [ln5]; omega)) gc_ok0) (by rw [ln5]) ?_
  have ok7 := gc_OKx (x := (true, 1, 4)) ok6 (fun k => Nat.le_of_ble_eq_true rfl)
  have ln7 : ((((sh ++ [(true, 1, 6)]) ++ [(true, 1, 6)]) ++ [(true, 1, 6)]) ++ [(true, 1, 4)]).length = p + 5 := gc_len1 ln5
  have S7_p := gc_gx (x := (true, 1, 4)) S5_p
  have S7_p1 := gc_gx (x := (true, 1, 4)) S5_p1
  have S7_p2 := gc_gx (x := (true, 1, 4)) S5_p2
  have S7_p3 := gc_gx (x := (true, 1, 4)) S5_p3
  have S7_p4 := gc_gl (x := (true, 1, 4)) (p := (p + 4)) (by rw [ln5])
  refine gv_lift (fun hk => gv_put hD rfl rfl S7_p ⟨by decide, by omega⟩ rfl trivial hk) ?_
  rw [gc_hUA S7_p rfl]
  have ok8 := gc_OKu (k := 9) (q := (p + 4)) ok7 S7_p rfl (by rw [ln7]; omega)
  refine gv_lift (fun hk => gv_run 2 true hD (pc' := 37) (lv' := [(0, .inr (.inr (some p)))]) (st' := [.inl 4, .inr (.inr (some p))]) (h' := gc_h ((((sh ++ [(true, 1, 6)]) ++ [(true, 1, 6)]) ++ [(true, 1, 6)]) ++ [(true, 1, 4)]) I J (gc_u (gc_u (gc_u (gc_u A p 5 (some (p + 1))) p 6 (some (p + 2))) p 7 (some (p + 3))) p 9 (some (p + 4)))) (C := ((True ∧ True) ∧ True)) rfl ⟨⟨trivial, trivial⟩, trivial⟩ hk) ?_
  show gv_Y _ _ (_, _, .inl ((4 : Nat) : Int) :: _, _, _)
  refine gc_Yarr hD (at_ := .int) (t := 1) (n := 4) (r := (p + 5)) rfl rfl (hw.1 _ (List.mem_of_getElem? (i := 3) rfl)) (Nat.le_of_ble_eq_true rfl) (Nat.le_of_ble_eq_true rfl) (by rw [ln7]; omega) ok8 (gc_okc (Or.inl (by rw [ln7]; omega)) gc_ok0) (gc_oks (Or.inl (by rw [ln7]; omega)) gc_ok0) (by rw [ln7]) ?_
  have ok9 := gc_OKx (x := (true, 1, 4)) ok8 (fun k => Nat.le_of_ble_eq_true rfl)
  have ln9 : (((((sh ++ [(true, 1, 6)]) ++ [(true, 1, 6)]) ++ [(true, 1, 6)]) ++ [(true, 1, 4)]) ++ [(true, 1, 4)]).length = p + 6 := gc_len1 ln7
  have S9_p := gc_gx (x := (true, 1, 4)) S7_p
  have S9_p1 := gc_gx (x := (true, 1, 4)) S7_p1
  have S9_p2 := gc_gx (x := (true, 1, 4)) S7_p2
  have S9_p3 := gc_gx (x := (true, 1, 4)) S7_p3
  have S9_p4 := gc_gx (x := (true, 1, 4)) S7_p4
  have S9_p5 := gc_gl (x := (true, 1, 4)) (p := (p + 5)) (by rw [ln7])
  refine gv_lift (fun hk => gv_put hD rfl rfl S9_p ⟨by decide, by omega⟩ rfl trivial hk) ?_
  rw [gc_hUA S9_p rfl]
  have ok10 := gc_OKu (k := 10) (q := (p + 5)) ok9 S9_p rfl (by rw [ln9]; omega)
  refine gv_lift (fun hk => gv_run 2 true hD (pc' := 44) (lv' := [(0, .inr (.inr (some p)))]) (st' := [.inl 4, .inr (.inr (some p))]) (h' := gc_h (((((sh ++ [(true, 1, 6)]) ++ [(true, 1, 6)]) ++ [(true, 1, 6)]) ++ [(true, 1, 4)]) ++ [(true, 1, 4)]) I J (gc_u (gc_u (gc_u (gc_u (gc_u A p 5 (some (p + 1))) p 6 (some (p + 2))) p 7 (some (p + 3))) p 9 (some (p + 4))) p 10 (some (p + 5)))) (C := ((True ∧ True) ∧ True)) rfl ⟨⟨trivial, trivial⟩, trivial⟩ hk) ?_
  show gv_Y _ _ (_, _, .inl ((4 : Nat) : Int) :: _, _, _)
  refine gc_Yarr hD (at_ := .int) (t := 1) (n := 4) (r := (p + 6)) rfl rfl (hw.1 _ (List.mem_of_getElem? (i := 3) rfl)) (Nat.le_of_ble_eq_true rfl) (Nat.le_of_ble_eq_true rfl) (by rw [ln9]; omega) ok10 (gc_okc (Or.inl (by rw [ln9]; omega)) gc_ok0) (gc_oks (Or.inl (by rw [ln9]; omega)) gc_ok0) (by rw [ln9]) ?_
  have ok11 := gc_OKx (x := (true, 1, 4)) ok10 (fun k => Nat.le_of_ble_eq_true rfl)
  have ln11 : ((((((sh ++ [(true, 1, 6)]) ++ [(true, 1, 6)]) ++ [(true, 1, 6)]) ++ [(true, 1, 4)]) ++ [(true, 1, 4)]) ++ [(true, 1, 4)]).length = p + 7 := gc_len1 ln9
  have S11_p := gc_gx (x := (true, 1, 4)) S9_p
  have S11_p1 := gc_gx (x := (true, 1, 4)) S9_p1
  have S11_p2 := gc_gx (x := (true, 1, 4)) S9_p2
  have S11_p3 := gc_gx (x := (true, 1, 4)) S9_p3
  have S11_p4 := gc_gx (x := (true, 1, 4)) S9_p4
  have S11_p5 := gc_gx (x := (true, 1, 4)) S9_p5
  have S11_p6 := gc_gl (x := (true, 1, 4)) (p := (p + 6)) (by rw [ln9])
  refine gv_lift (fun hk => gv_put hD rfl rfl S11_p ⟨by decide, by omega⟩ rfl trivial hk) ?_
  rw [gc_hUA S11_p rfl]
  have ok12 := gc_OKu (k := 11) (q := (p + 6)) ok11 S11_p rfl (by rw [ln11]; omega)
  refine gv_lift (fun hk => gv_run 2 true hD (pc' := 52) (lv' := [(0, .inr (.inr (some p)))]) (st' := [.inl 18, .inr (.inr (some p))]) (h' := gc_h ((((((sh ++ [(true, 1, 6)]) ++ [(true, 1, 6)]) ++ [(true, 1, 6)]) ++ [(true, 1, 4)]) ++ [(true, 1, 4)]) ++ [(true, 1, 4)]) I J (gc_u (gc_u (gc_u (gc_u (gc_u (gc_u A p 5 (some (p + 1))) p 6 (some (p + 2))) p 7 (some (p + 3))) p 9 (some (p + 4))) p 10 (some (p + 5))) p 11 (some (p + 6)))) (C := ((True ∧ True) ∧ True)) rfl ⟨⟨trivial, trivial⟩, trivial⟩ hk) ?_
  show gv_Y _ _ (_, _, .inl ((18 : Nat) : Int) :: _, _, _)
  refine gc_Yarr hD (at_ := .int) (t := 1) (n := 18) (r := (p + 7)) rfl rfl (hw.1 _ (List.mem_of_getElem? (i := 3) rfl)) (Nat.le_of_ble_eq_true rfl) (Nat.le_of_ble_eq_true rfl) (by rw [ln11]; omega) ok12 (gc_okc (Or.inl (by rw [ln11]; omega)) gc_ok0) (gc_oks (Or.inl (by rw [ln11]; omega)) gc_ok0) (by rw [ln11]) ?_
  have ok13 := gc_OKx (x := (true, 1, 18)) ok12 (fun k => Nat.le_of_ble_eq_true rfl)
  have ln13 : (((((((sh ++ [(true, 1, 6)]) ++ [(true, 1, 6)]) ++ [(true, 1, 6)]) ++ [(true, 1, 4)]) ++ [(true, 1, 4)]) ++ [(true, 1, 4)]) ++ [(true, 1, 18)]).length = p + 8 := gc_len1 ln11
  have S13_p := gc_gx (x := (true, 1, 18)) S11_p
  have S13_p1 := gc_gx (x := (true, 1, 18)) S11_p1
  have S13_p2 := gc_gx (x := (true, 1, 18)) S11_p2
  have S13_p3 := gc_gx (x := (true, 1, 18)) S11_p3
  have S13_p4 := gc_gx (x := (true, 1, 18)) S11_p4
  have S13_p5 := gc_gx (x := (true, 1, 18)) S11_p5
  have S13_p6 := gc_gx (x := (true, 1, 18)) S11_p6
  have S13_p7 := gc_gl (x := (true, 1, 18)) (p := (p + 7)) (by rw [ln11])
  refine gv_lift (fun hk => gv_put hD rfl rfl S13_p ⟨by decide, by omega⟩ rfl trivial hk) ?_
  rw [gc_hUA S13_p rfl]
  have ok14 := gc_OKu (k := 13) (q := (p + 7)) ok13 S13_p rfl (by rw [ln13]; omega)
  refine gv_lift (fun hk => gv_run 2 true hD (pc' := 60) (lv' := [(0, .inr (.inr (some p)))]) (st' := [.inl 18, .inr (.inr (some p))]) (h' := gc_h (((((((sh ++ [(true, 1, 6)]) ++ [(true, 1, 6)]) ++ [(true, 1, 6)]) ++ [(true, 1, 4)]) ++ [(true, 1, 4)]) ++ [(true, 1, 4)]) ++ [(true, 1, 18)]) I J (gc_u (gc_u (gc_u (gc_u (gc_u (gc_u (gc_u A p 5 (some (p + 1))) p 6 (some (p + 2))) p 7 (some (p + 3))) p 9 (some (p + 4))) p 10 (some (p + 5))) p 11 (some (p + 6))) p 13 (some (p + 7)))) (C := ((True ∧ True) ∧ True)) rfl ⟨⟨trivial, trivial⟩, trivial⟩ hk) ?_
  show gv_Y _ _ (_, _, .inl ((18 : Nat) : Int) :: _, _, _)
  refine gc_Yarr hD (at_ := .int) (t := 1) (n := 18) (r := (p + 8)) rfl rfl (hw.1 _ (List.mem_of_getElem? (i := 3) rfl)) (Nat.le_of_ble_eq_true rfl) (Nat.le_of_ble_eq_true rfl) (by rw [ln13]; omega) ok14 (gc_okc (Or.inl (by rw [ln13]; omega)) gc_ok0) (gc_oks (Or.inl (by rw [ln13]; omega)) gc_ok0) (by rw [ln13]) ?_
  have ok15 := gc_OKx (x := (true, 1, 18)) ok14 (fun k => Nat.le_of_ble_eq_true rfl)
  have ln15 : ((((((((sh ++ [(true, 1, 6)]) ++ [(true, 1, 6)]) ++ [(true, 1, 6)]) ++ [(true, 1, 4)]) ++ [(true, 1, 4)]) ++ [(true, 1, 4)]) ++ [(true, 1, 18)]) ++ [(true, 1, 18)]).length = p + 9 := gc_len1 ln13
  have S15_p := gc_gx (x := (true, 1, 18)) S13_p
  have S15_p1 := gc_gx (x := (true, 1, 18)) S13_p1
  have S15_p2 := gc_gx (x := (true, 1, 18)) S13_p2
  have S15_p3 := gc_gx (x := (true, 1, 18)) S13_p3
  have S15_p4 := gc_gx (x := (true, 1, 18)) S13_p4
  have S15_p5 := gc_gx (x := (true, 1, 18)) S13_p5
  have S15_p6 := gc_gx (x := (true, 1, 18)) S13_p6
  have S15_p7 := gc_gx (x := (true, 1, 18)) S13_p7
  have S15_p8 := gc_gl (x := (true, 1, 18)) (p := (p + 8)) (by rw [ln13])
  refine gv_lift (fun hk => gv_put hD rfl rfl S15_p ⟨by decide, by omega⟩ rfl trivial hk) ?_
  rw [gc_hUA S15_p rfl]
  have ok16 := gc_OKu (k := 15) (q := (p + 8)) ok15 S15_p rfl (by rw [ln15]; omega)
  exact gv_Yend ⟨Or.inl ⟨hD 65 _ rfl, rfl, rfl, rfl⟩, rfl, rfl, rfl, rfl⟩
theorem mo_X3_init {ws0 : List Cond} {tb : String → gz_T} (hw : gc_Wn ws0) (hws : gc_Ws ws0) (htb : gc_tbs tb) (d : Nat) {sh : gz_Sh} {I : gr_I} {J : gr_J} {A : gc_A} {p : Nat} (hl0 : sh.length = p + 1) (hB : p + 9 ≤ 1000000) (hs : sh[p]? = some (false, 3, 16)) (hok : gc_OK sh I J A) : gc_OK ((((((((sh ++ [(true, 1, 6)]) ++ [(true, 1, 6)]) ++ [(true, 1, 6)]) ++ [(true, 1, 4)]) ++ [(true, 1, 4)]) ++ [(true, 1, 4)]) ++ [(true, 1, 18)]) ++ [(true, 1, 18)]) I J (gc_u (gc_u (gc_u (gc_u (gc_u (gc_u (gc_u (gc_u A p 5 (some (p + 1))) p 6 (some (p + 2))) p 7 (some (p + 3))) p 9 (some (p + 4))) p 10 (some (p + 5))) p 11 (some (p + 6))) p 13 (some (p + 7))) p 15 (some (p + 8))) := by
  have ok1 := gc_OKx (x := (true, 1, 6)) hok (fun k => Nat.le_of_ble_eq_true rfl)
  have ln1 : (sh ++ [(true, 1, 6)]).length = p + 2 := gc_len1 hl0
  have S1_p := gc_gx (x := (true, 1, 6)) hs
  have S1_p1 := gc_gl (x := (true, 1, 6)) (p := (p + 1)) (by rw [hl0])
  have ok2 := gc_OKu (k := 5) (q := (p + 1)) ok1 S1_p rfl (by rw [ln1]; omega)
  have ok3 := gc_OKx (x := (true, 1, 6)) ok2 (fun k => Nat.le_of_ble_eq_true rfl)
  have ln3 : ((sh ++ [(true, 1, 6)]) ++ [(true, 1, 6)]).length = p + 3 := gc_len1 ln1
  have S3_p := gc_gx (x := (true, 1, 6)) S1_p
  have S3_p1 := gc_gx (x := (true, 1, 6)) S1_p1
  have S3_p2 := gc_gl (x := (true, 1, 6)) (p := (p + 2)) (by rw [ln1])
  have ok4 := gc_OKu (k := 6) (q := (p + 2)) ok3 S3_p rfl (by rw [ln3]; omega)
  have ok5 := gc_OKx (x := (true, 1, 6)) ok4 (fun k => Nat.le_of_ble_eq_true rfl)
  have ln5 : (((sh ++ [(true, 1, 6)]) ++ [(true, 1, 6)]) ++ [(true, 1, 6)]).length = p + 4 := gc_len1 ln3
  have S5_p := gc_gx (x := (true, 1, 6)) S3_p
  have S5_p1 := gc_gx (x := (true, 1, 6)) S3_p1
  have S5_p2 := gc_gx (x := (true, 1, 6)) S3_p2
  have S5_p3 := gc_gl (x := (true, 1, 6)) (p := (p + 3)) (by rw [ln3])
  have ok6 := gc_OKu (k := 7) (q := (p + 3)) ok5 S5_p rfl (by rw [ln5]; omega)
  have ok7 := gc_OKx (x := (true, 1, 4)) ok6 (fun k => Nat.le_of_ble_eq_true rfl)
  have ln7 : ((((sh ++ [(true, 1, 6)]) ++ [(true, 1, 6)]) ++ [(true, 1, 6)]) ++ [(true, 1, 4)]).length = p + 5 := gc_len1 ln5
  have S7_p := gc_gx (x := (true, 1, 4)) S5_p
  have S7_p1 := gc_gx (x := (true, 1, 4)) S5_p1
  have S7_p2 := gc_gx (x := (true, 1, 4)) S5_p2
  have S7_p3 := gc_gx (x := (true, 1, 4)) S5_p3
  have S7_p4 := gc_gl (x := (true, 1, 4)) (p := (p + 4)) (by rw [ln5])
  have ok8 := gc_OKu (k := 9) (q := (p + 4)) ok7 S7_p rfl (by rw [ln7]; omega)
  have ok9 := gc_OKx (x := (true, 1, 4)) ok8 (fun k => Nat.le_of_ble_eq_true rfl)
  have ln9 : (((((sh ++ [(true, 1, 6)]) ++ [(true, 1, 6)]) ++ [(true, 1, 6)]) ++ [(true, 1, 4)]) ++ [(true, 1, 4)]).length = p + 6 := gc_len1 ln7
  have S9_p := gc_gx (x := (true, 1, 4)) S7_p
  have S9_p1 := gc_gx (x := (true, 1, 4)) S7_p1
  have S9_p2 := gc_gx (x := (true, 1, 4)) S7_p2
  have S9_p3 := gc_gx (x := (true, 1, 4)) S7_p3
  have S9_p4 := gc_gx (x := (true, 1, 4)) S7_p4
  have S9_p5 := gc_gl (x := (true, 1, 4)) (p := (p + 5)) (by rw [ln7])
  have ok10 := gc_OKu (k := 10) (q := (p + 5)) ok9 S9_p rfl (by rw [ln9]; omega)
  have ok11 := gc_OKx (x := (true, 1, 4)) ok10 (fun k => Nat.le_of_ble_eq_true rfl)
  have ln11 : ((((((sh ++ [(true, 1, 6)]) ++ [(true, 1, 6)]) ++ [(true, 1, 6)]) ++ [(true, 1, 4)]) ++ [(true, 1, 4)]) ++ [(true, 1, 4)]).length = p + 7 := gc_len1 ln9
  have S11_p := gc_gx (x := (true, 1, 4)) S9_p
  have S11_p1 := gc_gx (x := (true, 1, 4)) S9_p1
  have S11_p2 := gc_gx (x := (true, 1, 4)) S9_p2
  have S11_p3 := gc_gx (x := (true, 1, 4)) S9_p3
  have S11_p4 := gc_gx (x := (true, 1, 4)) S9_p4
  have S11_p5 := gc_gx (x := (true, 1, 4)) S9_p5
  have S11_p6 := gc_gl (x := (true, 1, 4)) (p := (p + 6)) (by rw [ln9])
  have ok12 := gc_OKu (k := 11) (q := (p + 6)) ok11 S11_p rfl (by rw [ln11]; omega)
  have ok13 := gc_OKx (x := (true, 1, 18)) ok12 (fun k => Nat.le_of_ble_eq_true rfl)
  have ln13 : (((((((sh ++ [(true, 1, 6)]) ++ [(true, 1, 6)]) ++ [(true, 1, 6)]) ++ [(true, 1, 4)]) ++ [(true, 1, 4)]) ++ [(true, 1, 4)]) ++ [(true, 1, 18)]).length = p + 8 := gc_len1 ln11
  have S13_p := gc_gx (x := (true, 1, 18)) S11_p
  have S13_p1 := gc_gx (x := (true, 1, 18)) S11_p1
  have S13_p2 := gc_gx (x := (true, 1, 18)) S11_p2
  have S13_p3 := gc_gx (x := (true, 1, 18)) S11_p3
  have S13_p4 := gc_gx (x := (true, 1, 18)) S11_p4
  have S13_p5 := gc_gx (x := (true, 1, 18)) S11_p5
  have S13_p6 := gc_gx (x := (true, 1, 18)) S11_p6
  have S13_p7 := gc_gl (x := (true, 1, 18)) (p := (p + 7)) (by rw [ln11])
  have ok14 := gc_OKu (k := 13) (q := (p + 7)) ok13 S13_p rfl (by rw [ln13]; omega)
  have ok15 := gc_OKx (x := (true, 1, 18)) ok14 (fun k => Nat.le_of_ble_eq_true rfl)
  have ln15 : ((((((((sh ++ [(true, 1, 6)]) ++ [(true, 1, 6)]) ++ [(true, 1, 6)]) ++ [(true, 1, 4)]) ++ [(true, 1, 4)]) ++ [(true, 1, 4)]) ++ [(true, 1, 18)]) ++ [(true, 1, 18)]).length = p + 9 := gc_len1 ln13
  have S15_p := gc_gx (x := (true, 1, 18)) S13_p
  have S15_p1 := gc_gx (x := (true, 1, 18)) S13_p1
  have S15_p2 := gc_gx (x := (true, 1, 18)) S13_p2
  have S15_p3 := gc_gx (x := (true, 1, 18)) S13_p3
  have S15_p4 := gc_gx (x := (true, 1, 18)) S13_p4
  have S15_p5 := gc_gx (x := (true, 1, 18)) S13_p5
  have S15_p6 := gc_gx (x := (true, 1, 18)) S13_p6
  have S15_p7 := gc_gx (x := (true, 1, 18)) S13_p7
  have S15_p8 := gc_gl (x := (true, 1, 18)) (p := (p + 8)) (by rw [ln13])
  have ok16 := gc_OKu (k := 15) (q := (p + 8)) ok15 S15_p rfl (by rw [ln15]; omega)
  exact ok16
theorem m_X4_init {ws0 : List Cond} {tb : String → gz_T} (hw : gc_Wn ws0) (hws : gc_Ws ws0) (htb : gc_tbs tb) (d : Nat) {sh : gz_Sh} {I : gr_I} {J : gr_J} {A : gc_A} {p : Nat} {n : Nat} (hn : n ≤ 60000000) (hl0 : sh.length = p + 1) (hB : p + 2 ≤ 1000000) (hs : sh[p]? = some (false, 4, 2)) (hok : gc_OK sh I J A) : gz_Ev ws0 tb (d + 1) (yX4_init, cX4_init, 2, none) [.inr (.inr (some p)), .inl (n : Int)] sh (gc_h sh I J A) none (sh ++ [(true, 2, n)]) (gc_h (sh ++ [(true, 2, n)]) I J (gc_u A p 0 (some (p + 1)))) 1 (n) := by
  have hD : gv_D (gc_E4 ws0 tb (d + 0) (yX4_init, cX4_init, 2, none) kX4_init) := gq_ok oX4_init
  refine gv_evY (code := gq_c kX4_init) (Nat.le_of_ble_eq_true rfl) ?_
  show gv_Y (ws0, RX4, tb RX4, _) _ _
  rw [gc_tb4 htb]
  show gv_Y (gc_E4 ws0 tb (d + 0) (yX4_init, cX4_init, 2, none) kX4_init) _ (0, [(0, .inr (.inr (some p))), (1, .inl (n : Int))], [], sh, gc_h sh I J A)
  refine gv_lift (fun hk => gv_run 1 true hD (pc' := 1) (lv' := [(0, .inr (.inr (some p))), (1, .inl (n : Int))]) (st' := [.inr (.inr (some p))]) (h' := gc_h sh I J A) (C := (True ∧ True)) rfl ⟨trivial, trivial⟩ hk) ?_
  refine gc_Yobj hD (ix := 3) rfl (Nat.le_of_ble_eq_true rfl) (hw.1 _ (List.mem_of_getElem? (i := 4) rfl)) (hw.1 _ (List.mem_of_getElem? (i := 1) rfl)) (hw.1 _ (List.mem_of_getElem? (i := 2) rfl)) ?_
  refine gv_lift (fun hk => gv_run 2 true hD (pc' := 6) (lv' := [(0, .inr (.inr (some p))), (1, .inl (n : Int))]) (st' := [.inl (n : Int), .inr (.inr (some p))]) (h' := gc_h sh I J A) (C := ((True ∧ True) ∧ True)) rfl ⟨⟨trivial, trivial⟩, trivial⟩ hk) ?_
  refine gc_Yarr hD (at_ := .long) (t := 2) (n := n) (r := (p + 1)) rfl rfl (hw.1 _ (List.mem_of_getElem? (i := 5) rfl)) hn (Nat.le_of_ble_eq_true rfl) (by rw [hl0]; omega) hok (gc_okc (Or.inl (by rw [hl0]; omega)) (gc_okc trivial gc_ok0)) (gc_oks (Or.inl (by rw [hl0]; omega)) gc_ok0) (by rw [hl0]) ?_
  have ok1 := gc_OKx (x := (true, 2, n)) hok (fun k => Nat.le_of_ble_eq_true rfl)
  have ln1 : (sh ++ [(true, 2, n)]).length = p + 2 := gc_len1 hl0
  have S1_p := gc_gx (x := (true, 2, n)) hs
  have S1_p1 := gc_gl (x := (true, 2, n)) (p := (p + 1)) (by rw [hl0])
  refine gv_lift (fun hk => gv_put hD rfl rfl S1_p ⟨by decide, by omega⟩ rfl trivial hk) ?_
  rw [gc_hUA S1_p rfl]
  have ok2 := gc_OKu (k := 0) (q := (p + 1)) ok1 S1_p rfl (by rw [ln1]; omega)
  exact gv_Yend ⟨Or.inl ⟨hD 11 _ rfl, rfl, rfl, rfl⟩, rfl, rfl, rfl, rfl⟩
theorem mo_X4_init {ws0 : List Cond} {tb : String → gz_T} (hw : gc_Wn ws0) (hws : gc_Ws ws0) (htb : gc_tbs tb) (d : Nat) {sh : gz_Sh} {I : gr_I} {J : gr_J} {A : gc_A} {p : Nat} {n : Nat} (hn : n ≤ 60000000) (hl0 : sh.length = p + 1) (hB : p + 2 ≤ 1000000) (hs : sh[p]? = some (false, 4, 2)) (hok : gc_OK sh I J A) : gc_OK (sh ++ [(true, 2, n)]) I J (gc_u A p 0 (some (p + 1))) := by
  have ok1 := gc_OKx (x := (true, 2, n)) hok (fun k => Nat.le_of_ble_eq_true rfl)
  have ln1 : (sh ++ [(true, 2, n)]).length = p + 2 := gc_len1 hl0
  have S1_p := gc_gx (x := (true, 2, n)) hs
  have S1_p1 := gc_gl (x := (true, 2, n)) (p := (p + 1)) (by rw [hl0])
  have ok2 := gc_OKu (k := 0) (q := (p + 1)) ok1 S1_p rfl (by rw [ln1]; omega)
  exact ok2
