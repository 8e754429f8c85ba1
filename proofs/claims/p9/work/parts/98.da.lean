/-! WHAT TABLES AND PREMISES GIVE at the law's start. -/
set_option maxRecDepth 100000 in
theorem gs9t1 : Cond.instantiable RX0 22 ∈ lw_tbl := pk_t2 _ (List.mem_of_getElem? (i := 59) rfl)
set_option maxRecDepth 100000 in
theorem gs9t2 : Cond.instantiable RX1 19 ∈ lw_tbl := pk_t3 _ (List.mem_of_getElem? (i := 84) rfl)
set_option maxRecDepth 100000 in
theorem gs9t3 : Cond.instantiable RX2 10 ∈ lw_tbl := pk_t4 _ (List.mem_of_getElem? (i := 60) rfl)
set_option maxRecDepth 100000 in
theorem gs9t4 : Cond.instantiable RX3 16 ∈ lw_tbl := pk_t5 _ (List.mem_of_getElem? (i := 107) rfl)
set_option maxRecDepth 100000 in
theorem gs9t5 : Cond.instantiable RX4 2 ∈ lw_tbl := pk_t1 _ (List.mem_of_getElem? (i := 43) rfl)
set_option maxRecDepth 100000 in
theorem gs9t6 : Cond.instantiable RX5 19 ∈ lw_tbl := pk_t2 _ (List.mem_of_getElem? (i := 145) rfl)
set_option maxRecDepth 100000 in
theorem gs9t7 : Cond.instantiable RX6 19 ∈ lw_tbl := pk_t1 _ (List.mem_of_getElem? (i := 233) rfl)
set_option maxRecDepth 100000 in
theorem gs9t8 : Cond.instantiable RX7 14 ∈ lw_tbl := pk_t2 _ (List.mem_of_getElem? (i := 211) rfl)
set_option maxRecDepth 100000 in
theorem gs9t9 : Cond.instantiable RX8 21 ∈ lw_tbl := pk_t1 _ (List.mem_of_getElem? (i := 37) rfl)
set_option maxRecDepth 100000 in
theorem gs9t10 : Cond.instantiable RX9 10 ∈ lw_tbl := pk_t1 _ (List.mem_of_getElem? (i := 171) rfl)
set_option maxRecDepth 100000 in
theorem gs9t11 : Cond.instantiable RX10 19 ∈ lw_tbl := pk_t3 _ (List.mem_of_getElem? (i := 20) rfl)
set_option maxRecDepth 100000 in
theorem gs9t12 : Cond.instantiable RX11 16 ∈ lw_tbl := pk_t4 _ (List.mem_of_getElem? (i := 50) rfl)
set_option maxRecDepth 100000 in
theorem gs9t13 : Cond.instantiable RX12 17 ∈ lw_tbl := pk_t1 _ (List.mem_of_getElem? (i := 29) rfl)
set_option maxRecDepth 100000 in
theorem gs9t14 : Cond.instantiable RX13 229 ∈ lw_tbl := pk_t9 _ (List.mem_of_getElem? (i := 84) rfl)
set_option maxRecDepth 100000 in
theorem gs9t15 : Cond.arrayClass .byte ∈ lw_tbl := pk_t1 _ (List.mem_of_getElem? (i := 169) rfl)
set_option maxRecDepth 100000 in
theorem gs9t16 : Cond.arrayClass .int ∈ lw_tbl := pk_t1 _ (List.mem_of_getElem? (i := 168) rfl)
set_option maxRecDepth 100000 in
theorem gs9t17 : Cond.arrayClass .long ∈ lw_tbl := pk_t1 _ (List.mem_of_getElem? (i := 63) rfl)
set_option maxRecDepth 100000 in
theorem gs9t18 : Cond.arrayClass .boolean ∈ lw_tbl := pk_t2 _ (List.mem_of_getElem? (i := 209) rfl)
set_option maxRecDepth 100000 in
theorem gs9t19 : Cond.arrayOver (.object RX3) ∈ lw_tbl := pk_t4 _ (List.mem_of_getElem? (i := 58) rfl)
set_option maxRecDepth 100000 in
theorem gs9t20 : Cond.arrayOver (.object RX11) ∈ lw_tbl := pk_t1 _ (List.mem_of_getElem? (i := 65) rfl)
set_option maxRecDepth 100000 in
theorem gs9t21 : Cond.arrayOver (.array .byte) ∈ lw_tbl := pk_t3 _ (List.mem_of_getElem? (i := 90) rfl)
set_option maxRecDepth 100000 in
theorem gs9t22 : Cond.arrayOver (.array .int) ∈ lw_tbl := pk_t3 _ (List.mem_of_getElem? (i := 153) rfl)
set_option maxRecDepth 100000 in
theorem gs9t23 : Cond.methodLinkNest RX12 11 yX8_init RX12 ∈ lw_tbl := pk_t1 _ (List.mem_of_getElem? (i := 38) rfl)
set_option maxRecDepth 100000 in
theorem gs9t24 : Cond.methodLinkNest RX12 18 yX9_init RX12 ∈ lw_tbl := pk_t1 _ (List.mem_of_getElem? (i := 172) rfl)
set_option maxRecDepth 100000 in
theorem gs9t25 : Cond.methodLinkNest RX1 32 yX9_init RX12 ∈ lw_tbl := pk_t3 _ (List.mem_of_getElem? (i := 92) rfl)
set_option maxRecDepth 100000 in
theorem gs9t26 : Cond.methodLinkNest RX6 361 yX3_init RX12 ∈ lw_tbl := pk_t5 _ (List.mem_of_getElem? (i := 108) rfl)
set_option maxHeartbeats 8000000 in
theorem lc_G {s : State} {args : Array Value} (hts : ∀ w ∈ lw_tbl, w.before args s = true) : ∃ (D : va_G) (cy : Nat → ClassId), pw_G D cy s := by
  obtain ⟨c0, i0, k0⟩ := u_known (C := RX0) (T := TX0) (N := 22) (n := 22) hts gwy0_all (hts _ gs9t1)
  obtain ⟨c1, i1, k1⟩ := u_known (C := RX1) (T := TX1) (N := 19) (n := 19) hts gwy1_all (hts _ gs9t2)
  obtain ⟨c2, i2, k2⟩ := u_known (C := RX2) (T := TX2) (N := 10) (n := 10) hts gwy2_all (hts _ gs9t3)
  obtain ⟨c3, i3, k3⟩ := u_known (C := RX3) (T := TX3) (N := 16) (n := 16) hts gwy3_all (hts _ gs9t4)
  obtain ⟨c4, i4, k4⟩ := u_known (C := RX4) (T := TX4) (N := 2) (n := 2) hts gwy4_all (hts _ gs9t5)
  obtain ⟨c5, i5, k5⟩ := u_known (C := RX5) (T := TX5) (N := 19) (n := 19) hts gwy5_all (hts _ gs9t6)
  obtain ⟨c6, i6, k6⟩ := u_known (C := RX6) (T := TX6) (N := 19) (n := 19) hts gwy6_all (hts _ gs9t7)
  obtain ⟨c7, i7, k7⟩ := u_known (C := RX7) (T := TX7) (N := 14) (n := 14) hts gwy7_all (hts _ gs9t8)
  obtain ⟨c8, i8, k8⟩ := u_known (C := RX8) (T := TX8) (N := 21) (n := 21) hts gwy8_all (hts _ gs9t9)
  obtain ⟨c9, i9, k9⟩ := u_known (C := RX9) (T := TX9) (N := 10) (n := 10) hts gwy9_all (hts _ gs9t10)
  obtain ⟨c10, i10, k10⟩ := u_known (C := RX10) (T := TX10) (N := 19) (n := 19) hts gwy10_all (hts _ gs9t11)
  obtain ⟨c11, i11, k11⟩ := u_known (C := RX11) (T := TX11) (N := 16) (n := 16) hts gwy11_all (hts _ gs9t12)
  obtain ⟨c12, i12, k12⟩ := u_known (C := RX12) (T := TX12) (N := 17) (n := 17) hts gwy12_all (hts _ gs9t13)
  obtain ⟨c13, i13, k13⟩ := u_known (C := RX13) (T := TX13) (N := 229) (n := 229) hts gwy13_all (hts _ gs9t14)
  obtain ⟨a0, ka0, co0, fa0, ga0, ha0⟩ := Cond.arrayClass_spec (hts _ gs9t15)
  obtain ⟨a1, ka1, co1, fa1, ga1, ha1⟩ := Cond.arrayClass_spec (hts _ gs9t16)
  obtain ⟨a2, ka2, co2, fa2, ga2, ha2⟩ := Cond.arrayClass_spec (hts _ gs9t17)
  obtain ⟨a3, ka3, co3, fa3, ga3, ha3⟩ := Cond.arrayClass_spec (hts _ gs9t18)
  obtain ⟨co4, a4, ka4, fc4, -, ga4, ha4, fa4⟩ := Cond.arrayOver_spec (hts _ gs9t19)
  obtain ⟨co5, a5, ka5, fc5, -, ga5, ha5, fa5⟩ := Cond.arrayOver_spec (hts _ gs9t20)
  obtain ⟨co6, a6, ka6, fc6, -, ga6, ha6, fa6⟩ := arrayOverA_spec (hts _ gs9t21)
  obtain ⟨co7, a7, ka7, fc7, -, ga7, ha7, fa7⟩ := arrayOverA_spec (hts _ gs9t22)
  refine ⟨(fun k => [c0, c1, c2, c3, c4, c5, c6, c7, c8, c9, c10, c11, c12, c13].getD k 0, fun k => [i0, i1, i2, i3, i4, i5, i6, i7, i8, i9, i10, i11, i12, i13].getD k (fun _ => 0)), fun k => [a0, a1, a2, a3, a4, a5, a6, a7].getD k 0, ⟨?_, ?_⟩, ⟨va_Nw.of rfl (hts _ gs9t23), va_Nw.of rfl (hts _ gs9t24), va_Nw.of rfl (hts _ gs9t25), va_Nw.of rfl (hts _ gs9t26)⟩, va_AO.of (hts _ gs9t19), va_AO.of (hts _ gs9t20), hts _ gs9t21, hts _ gs9t22⟩
  · intro k q hq
    match k, hq with
    | 0, hq => cases hq; exact k0
    | 1, hq => cases hq; exact k1
    | 2, hq => cases hq; exact k2
    | 3, hq => cases hq; exact k3
    | 4, hq => cases hq; exact k4
    | 5, hq => cases hq; exact k5
    | 6, hq => cases hq; exact k6
    | 7, hq => cases hq; exact k7
    | 8, hq => cases hq; exact k8
    | 9, hq => cases hq; exact k9
    | 10, hq => cases hq; exact k10
    | 11, hq => cases hq; exact k11
    | 12, hq => cases hq; exact k12
    | 13, hq => cases hq; exact k13
    | k + 14, hq => simp [vwCl] at hq
  · intro k q hq
    match k, hq with
    | 0, hq => cases hq; exact ⟨fun n z => ⟨fun k h => (by cases h), ka0, ga0, co0, ha0⟩, fa0⟩
    | 1, hq => cases hq; exact ⟨fun n z => ⟨fun k h => (by cases h), ka1, ga1, co1, ha1⟩, fa1⟩
    | 2, hq => cases hq; exact ⟨fun n z => ⟨fun k h => (by cases h), ka2, ga2, co2, ha2⟩, fa2⟩
    | 3, hq => cases hq; exact ⟨fun n z => ⟨fun k h => (by cases h), ka3, ga3, co3, ha3⟩, fa3⟩
    | 4, hq => cases hq; exact ⟨fun n z => ⟨fun k h => (by cases h), ka4, ga4, co4, ha4⟩, ⟨ka4, co4, ga4, ha4, fc4, fa4⟩⟩
    | 5, hq => cases hq; exact ⟨fun n z => ⟨fun k h => (by cases h), ka5, ga5, co5, ha5⟩, ⟨ka5, co5, ga5, ha5, fc5, fa5⟩⟩
    | 6, hq => cases hq; exact ⟨fun n z => ⟨fun k h => (by cases h), ka6, ga6, co6, ha6⟩, fa6⟩
    | 7, hq => cases hq; exact ⟨fun n z => ⟨fun k h => (by cases h), ka7, ga7, co7, ha7⟩, fa7⟩
    | k + 8, hq => simp [pw_T] at hq
theorem lc_l {a b : Cond} {args : Array Value} {s : State} (h : (Cond.and a b).before args s = true) : a.before args s = true := by
  rw [Cond.before_and, Bool.and_eq_true] at h
  exact h.1
theorem lc_r {a b : Cond} {args : Array Value} {s : State} (h : (Cond.and a b).before args s = true) : b.before args s = true := by
  rw [Cond.before_and, Bool.and_eq_true] at h
  exact h.2
def lc_str (args : Array Value) (s : State) (k n : Nat) (by_ : Nat → Int32) : Prop := (Cond.exactly (.string RX13 k) "java/lang/String").before args s = true ∧ (Cond.eq (.field (.string RX13 k) "java/lang/String" "coder" "B") (.int 0)).before args s = true ∧ (Cond.arrayOf (.field (.string RX13 k) "java/lang/String" "value" "[B") .byte).before args s = true ∧ (Cond.eq (.length (.field (.string RX13 k) "java/lang/String" "value" "[B")) (.int (Int32.ofNat n))).before args s = true ∧ ∀ j, j < n → (Cond.eq (.elem (.field (.string RX13 k) "java/lang/String" "value" "[B") (.int (Int32.ofNat j))) (.int (by_ j))).before args s = true
theorem gs9n1 {args : Array Value} {s : State} (h : narrow_1.before args s = true) : (Cond.exactly (.string "TongueHouseModel" 197) "java/lang/String").before args s = true := lc_l (lc_l (lc_l (lc_r (lc_l (lc_l (lc_l (lc_r (h))))))))
theorem gs9n2 {args : Array Value} {s : State} (h : narrow_1.before args s = true) : (Cond.eq (.field (.string "TongueHouseModel" 197) "java/lang/String" "coder" "B") (.int 0)).before args s = true := lc_l (lc_r (lc_l (lc_l (lc_r (lc_l (lc_l (lc_l (lc_r (h)))))))))
theorem gs9n3 {args : Array Value} {s : State} (h : narrow_1.before args s = true) : (Cond.arrayOf (.field (.string "TongueHouseModel" 197) "java/lang/String" "value" "[B") .byte).before args s = true := lc_r (lc_r (lc_l (lc_l (lc_r (lc_l (lc_l (lc_l (lc_r (h)))))))))
theorem gs9n4 {args : Array Value} {s : State} (h : narrow_1.before args s = true) : (Cond.eq (.length (.field (.string "TongueHouseModel" 197) "java/lang/String" "value" "[B")) (.int 6)).before args s = true := lc_l (lc_l (lc_r (lc_l (lc_r (lc_l (lc_l (lc_l (lc_r (h)))))))))
theorem gs9n5 {args : Array Value} {s : State} (h : narrow_1.before args s = true) : (Cond.eq (.elem (.field (.string "TongueHouseModel" 197) "java/lang/String" "value" "[B") (.int 0)) (.int 116)).before args s = true := lc_r (lc_l (lc_r (lc_l (lc_r (lc_l (lc_l (lc_l (lc_r (h)))))))))
theorem gs9n6 {args : Array Value} {s : State} (h : narrow_1.before args s = true) : (Cond.eq (.elem (.field (.string "TongueHouseModel" 197) "java/lang/String" "value" "[B") (.int 1)) (.int 111)).before args s = true := lc_l (lc_r (lc_r (lc_l (lc_r (lc_l (lc_l (lc_l (lc_r (h)))))))))
theorem gs9n7 {args : Array Value} {s : State} (h : narrow_1.before args s = true) : (Cond.eq (.elem (.field (.string "TongueHouseModel" 197) "java/lang/String" "value" "[B") (.int 2)) (.int 110)).before args s = true := lc_r (lc_r (lc_r (lc_l (lc_r (lc_l (lc_l (lc_l (lc_r (h)))))))))
theorem gs9n8 {args : Array Value} {s : State} (h : narrow_1.before args s = true) : (Cond.eq (.elem (.field (.string "TongueHouseModel" 197) "java/lang/String" "value" "[B") (.int 3)) (.int 103)).before args s = true := lc_l (lc_l (lc_r (lc_r (lc_l (lc_l (lc_l (lc_r (h))))))))
theorem gs9n9 {args : Array Value} {s : State} (h : narrow_1.before args s = true) : (Cond.eq (.elem (.field (.string "TongueHouseModel" 197) "java/lang/String" "value" "[B") (.int 4)) (.int 117)).before args s = true := lc_l (lc_r (lc_l (lc_r (lc_r (lc_l (lc_l (lc_l (lc_r (h)))))))))
theorem gs9n10 {args : Array Value} {s : State} (h : narrow_1.before args s = true) : (Cond.eq (.elem (.field (.string "TongueHouseModel" 197) "java/lang/String" "value" "[B") (.int 5)) (.int 101)).before args s = true := lc_r (lc_r (lc_l (lc_r (lc_r (lc_l (lc_l (lc_l (lc_r (h)))))))))
theorem lc_s0 {args : Array Value} {s : State} (h : narrow_1.before args s = true) : lc_str args s 197 (gd_ln 197) (gd_bt 197) := by
  refine ⟨gs9n1 h, gs9n2 h, gs9n3 h, gs9n4 h, fun j hj => ?_⟩
  match j, hj with
  | 0, _ => exact gs9n5 h
  | 1, _ => exact gs9n6 h
  | 2, _ => exact gs9n7 h
  | 3, _ => exact gs9n8 h
  | 4, _ => exact gs9n9 h
  | 5, _ => exact gs9n10 h
  | k + 6, hk => exact absurd hk (by have : gd_ln 197 = 6 := rfl; omega)
theorem gs9n11 {args : Array Value} {s : State} (h : narrow_1.before args s = true) : (Cond.exactly (.string "TongueHouseModel" 207) "java/lang/String").before args s = true := lc_l (lc_l (lc_r (lc_r (lc_r (lc_l (lc_l (lc_l (lc_r (h)))))))))
theorem gs9n12 {args : Array Value} {s : State} (h : narrow_1.before args s = true) : (Cond.eq (.field (.string "TongueHouseModel" 207) "java/lang/String" "coder" "B") (.int 0)).before args s = true := lc_r (lc_l (lc_r (lc_r (lc_r (lc_l (lc_l (lc_l (lc_r (h)))))))))
theorem gs9n13 {args : Array Value} {s : State} (h : narrow_1.before args s = true) : (Cond.arrayOf (.field (.string "TongueHouseModel" 207) "java/lang/String" "value" "[B") .byte).before args s = true := lc_l (lc_r (lc_r (lc_r (lc_r (lc_l (lc_l (lc_l (lc_r (h)))))))))
theorem gs9n14 {args : Array Value} {s : State} (h : narrow_1.before args s = true) : (Cond.eq (.length (.field (.string "TongueHouseModel" 207) "java/lang/String" "value" "[B")) (.int 4)).before args s = true := lc_r (lc_r (lc_r (lc_r (lc_r (lc_l (lc_l (lc_l (lc_r (h)))))))))
theorem gs9n15 {args : Array Value} {s : State} (h : narrow_1.before args s = true) : (Cond.eq (.elem (.field (.string "TongueHouseModel" 207) "java/lang/String" "value" "[B") (.int 0)) (.int 107)).before args s = true := lc_l (lc_l (lc_l (lc_l (lc_r (lc_l (lc_l (lc_r (h))))))))
theorem gs9n16 {args : Array Value} {s : State} (h : narrow_1.before args s = true) : (Cond.eq (.elem (.field (.string "TongueHouseModel" 207) "java/lang/String" "value" "[B") (.int 1)) (.int 105)).before args s = true := lc_l (lc_r (lc_l (lc_l (lc_l (lc_r (lc_l (lc_l (lc_r (h)))))))))
theorem gs9n17 {args : Array Value} {s : State} (h : narrow_1.before args s = true) : (Cond.eq (.elem (.field (.string "TongueHouseModel" 207) "java/lang/String" "value" "[B") (.int 2)) (.int 110)).before args s = true := lc_r (lc_r (lc_l (lc_l (lc_l (lc_r (lc_l (lc_l (lc_r (h)))))))))
theorem gs9n18 {args : Array Value} {s : State} (h : narrow_1.before args s = true) : (Cond.eq (.elem (.field (.string "TongueHouseModel" 207) "java/lang/String" "value" "[B") (.int 3)) (.int 100)).before args s = true := lc_l (lc_l (lc_r (lc_l (lc_l (lc_r (lc_l (lc_l (lc_r (h)))))))))
theorem lc_s1 {args : Array Value} {s : State} (h : narrow_1.before args s = true) : lc_str args s 207 (gd_ln 207) (gd_bt 207) := by
  refine ⟨gs9n11 h, gs9n12 h, gs9n13 h, gs9n14 h, fun j hj => ?_⟩
  match j, hj with
  | 0, _ => exact gs9n15 h
  | 1, _ => exact gs9n16 h
  | 2, _ => exact gs9n17 h
  | 3, _ => exact gs9n18 h
  | k + 4, hk => exact absurd hk (by have : gd_ln 207 = 4 := rfl; omega)
theorem gs9n19 {args : Array Value} {s : State} (h : narrow_1.before args s = true) : (Cond.exactly (.string "TongueHouseModel" 212) "java/lang/String").before args s = true := lc_r (lc_l (lc_r (lc_l (lc_l (lc_r (lc_l (lc_l (lc_r (h)))))))))
theorem gs9n20 {args : Array Value} {s : State} (h : narrow_1.before args s = true) : (Cond.eq (.field (.string "TongueHouseModel" 212) "java/lang/String" "coder" "B") (.int 0)).before args s = true := lc_l (lc_r (lc_r (lc_l (lc_l (lc_r (lc_l (lc_l (lc_r (h)))))))))
theorem gs9n21 {args : Array Value} {s : State} (h : narrow_1.before args s = true) : (Cond.arrayOf (.field (.string "TongueHouseModel" 212) "java/lang/String" "value" "[B") .byte).before args s = true := lc_r (lc_r (lc_r (lc_l (lc_l (lc_r (lc_l (lc_l (lc_r (h)))))))))
theorem gs9n22 {args : Array Value} {s : State} (h : narrow_1.before args s = true) : (Cond.eq (.length (.field (.string "TongueHouseModel" 212) "java/lang/String" "value" "[B")) (.int 3)).before args s = true := lc_l (lc_l (lc_r (lc_l (lc_r (lc_l (lc_l (lc_r (h))))))))
theorem gs9n23 {args : Array Value} {s : State} (h : narrow_1.before args s = true) : (Cond.eq (.elem (.field (.string "TongueHouseModel" 212) "java/lang/String" "value" "[B") (.int 0)) (.int 102)).before args s = true := lc_l (lc_r (lc_l (lc_r (lc_l (lc_r (lc_l (lc_l (lc_r (h)))))))))
theorem gs9n24 {args : Array Value} {s : State} (h : narrow_1.before args s = true) : (Cond.eq (.elem (.field (.string "TongueHouseModel" 212) "java/lang/String" "value" "[B") (.int 1)) (.int 117)).before args s = true := lc_r (lc_r (lc_l (lc_r (lc_l (lc_r (lc_l (lc_l (lc_r (h)))))))))
theorem gs9n25 {args : Array Value} {s : State} (h : narrow_1.before args s = true) : (Cond.eq (.elem (.field (.string "TongueHouseModel" 212) "java/lang/String" "value" "[B") (.int 2)) (.int 110)).before args s = true := lc_l (lc_l (lc_r (lc_r (lc_l (lc_r (lc_l (lc_l (lc_r (h)))))))))
theorem lc_s2 {args : Array Value} {s : State} (h : narrow_1.before args s = true) : lc_str args s 212 (gd_ln 212) (gd_bt 212) := by
  refine ⟨gs9n19 h, gs9n20 h, gs9n21 h, gs9n22 h, fun j hj => ?_⟩
  match j, hj with
  | 0, _ => exact gs9n23 h
  | 1, _ => exact gs9n24 h
  | 2, _ => exact gs9n25 h
  | k + 3, hk => exact absurd hk (by have : gd_ln 212 = 3 := rfl; omega)
theorem gs9n26 {args : Array Value} {s : State} (h : narrow_1.before args s = true) : (Cond.exactly (.string "TongueHouseModel" 217) "java/lang/String").before args s = true := lc_r (lc_l (lc_r (lc_r (lc_l (lc_r (lc_l (lc_l (lc_r (h)))))))))
theorem gs9n27 {args : Array Value} {s : State} (h : narrow_1.before args s = true) : (Cond.eq (.field (.string "TongueHouseModel" 217) "java/lang/String" "coder" "B") (.int 0)).before args s = true := lc_l (lc_r (lc_r (lc_r (lc_l (lc_r (lc_l (lc_l (lc_r (h)))))))))
theorem gs9n28 {args : Array Value} {s : State} (h : narrow_1.before args s = true) : (Cond.arrayOf (.field (.string "TongueHouseModel" 217) "java/lang/String" "value" "[B") .byte).before args s = true := lc_r (lc_r (lc_r (lc_r (lc_l (lc_r (lc_l (lc_l (lc_r (h)))))))))
theorem gs9n29 {args : Array Value} {s : State} (h : narrow_1.before args s = true) : (Cond.eq (.length (.field (.string "TongueHouseModel" 217) "java/lang/String" "value" "[B")) (.int 7)).before args s = true := lc_l (lc_l (lc_l (lc_r (lc_r (lc_l (lc_l (lc_r (h))))))))
theorem gs9n30 {args : Array Value} {s : State} (h : narrow_1.before args s = true) : (Cond.eq (.elem (.field (.string "TongueHouseModel" 217) "java/lang/String" "value" "[B") (.int 0)) (.int 102)).before args s = true := lc_l (lc_r (lc_l (lc_l (lc_r (lc_r (lc_l (lc_l (lc_r (h)))))))))
theorem gs9n31 {args : Array Value} {s : State} (h : narrow_1.before args s = true) : (Cond.eq (.elem (.field (.string "TongueHouseModel" 217) "java/lang/String" "value" "[B") (.int 1)) (.int 101)).before args s = true := lc_r (lc_r (lc_l (lc_l (lc_r (lc_r (lc_l (lc_l (lc_r (h)))))))))
theorem gs9n32 {args : Array Value} {s : State} (h : narrow_1.before args s = true) : (Cond.eq (.elem (.field (.string "TongueHouseModel" 217) "java/lang/String" "value" "[B") (.int 2)) (.int 97)).before args s = true := lc_l (lc_l (lc_r (lc_l (lc_r (lc_r (lc_l (lc_l (lc_r (h)))))))))
theorem gs9n33 {args : Array Value} {s : State} (h : narrow_1.before args s = true) : (Cond.eq (.elem (.field (.string "TongueHouseModel" 217) "java/lang/String" "value" "[B") (.int 3)) (.int 116)).before args s = true := lc_r (lc_l (lc_r (lc_l (lc_r (lc_r (lc_l (lc_l (lc_r (h)))))))))
theorem gs9n34 {args : Array Value} {s : State} (h : narrow_1.before args s = true) : (Cond.eq (.elem (.field (.string "TongueHouseModel" 217) "java/lang/String" "value" "[B") (.int 4)) (.int 117)).before args s = true := lc_l (lc_r (lc_r (lc_l (lc_r (lc_r (lc_l (lc_l (lc_r (h)))))))))
theorem gs9n35 {args : Array Value} {s : State} (h : narrow_1.before args s = true) : (Cond.eq (.elem (.field (.string "TongueHouseModel" 217) "java/lang/String" "value" "[B") (.int 5)) (.int 114)).before args s = true := lc_r (lc_r (lc_r (lc_l (lc_r (lc_r (lc_l (lc_l (lc_r (h)))))))))
theorem gs9n36 {args : Array Value} {s : State} (h : narrow_1.before args s = true) : (Cond.eq (.elem (.field (.string "TongueHouseModel" 217) "java/lang/String" "value" "[B") (.int 6)) (.int 101)).before args s = true := lc_l (lc_l (lc_l (lc_r (lc_r (lc_r (lc_l (lc_l (lc_r (h)))))))))
theorem lc_s3 {args : Array Value} {s : State} (h : narrow_1.before args s = true) : lc_str args s 217 (gd_ln 217) (gd_bt 217) := by
  refine ⟨gs9n26 h, gs9n27 h, gs9n28 h, gs9n29 h, fun j hj => ?_⟩
  match j, hj with
  | 0, _ => exact gs9n30 h
  | 1, _ => exact gs9n31 h
  | 2, _ => exact gs9n32 h
  | 3, _ => exact gs9n33 h
  | 4, _ => exact gs9n34 h
  | 5, _ => exact gs9n35 h
  | 6, _ => exact gs9n36 h
  | k + 7, hk => exact absurd hk (by have : gd_ln 217 = 7 := rfl; omega)
theorem gs9n37 {args : Array Value} {s : State} (h : narrow_1.before args s = true) : (Cond.exactly (.string "TongueHouseModel" 222) "java/lang/String").before args s = true := lc_r (lc_l (lc_l (lc_r (lc_r (lc_r (lc_l (lc_l (lc_r (h)))))))))
theorem gs9n38 {args : Array Value} {s : State} (h : narrow_1.before args s = true) : (Cond.eq (.field (.string "TongueHouseModel" 222) "java/lang/String" "coder" "B") (.int 0)).before args s = true := lc_l (lc_r (lc_l (lc_r (lc_r (lc_r (lc_l (lc_l (lc_r (h)))))))))
theorem gs9n39 {args : Array Value} {s : State} (h : narrow_1.before args s = true) : (Cond.arrayOf (.field (.string "TongueHouseModel" 222) "java/lang/String" "value" "[B") .byte).before args s = true := lc_r (lc_r (lc_l (lc_r (lc_r (lc_r (lc_l (lc_l (lc_r (h)))))))))
theorem gs9n40 {args : Array Value} {s : State} (h : narrow_1.before args s = true) : (Cond.eq (.length (.field (.string "TongueHouseModel" 222) "java/lang/String" "value" "[B")) (.int 7)).before args s = true := lc_l (lc_l (lc_r (lc_r (lc_r (lc_r (lc_l (lc_l (lc_r (h)))))))))
theorem gs9n41 {args : Array Value} {s : State} (h : narrow_1.before args s = true) : (Cond.eq (.elem (.field (.string "TongueHouseModel" 222) "java/lang/String" "value" "[B") (.int 0)) (.int 108)).before args s = true := lc_r (lc_l (lc_r (lc_r (lc_r (lc_r (lc_l (lc_l (lc_r (h)))))))))
theorem gs9n42 {args : Array Value} {s : State} (h : narrow_1.before args s = true) : (Cond.eq (.elem (.field (.string "TongueHouseModel" 222) "java/lang/String" "value" "[B") (.int 1)) (.int 101)).before args s = true := lc_l (lc_r (lc_r (lc_r (lc_r (lc_r (lc_l (lc_l (lc_r (h)))))))))
theorem gs9n43 {args : Array Value} {s : State} (h : narrow_1.before args s = true) : (Cond.eq (.elem (.field (.string "TongueHouseModel" 222) "java/lang/String" "value" "[B") (.int 2)) (.int 116)).before args s = true := lc_r (lc_r (lc_r (lc_r (lc_r (lc_r (lc_l (lc_l (lc_r (h)))))))))
theorem gs9n44 {args : Array Value} {s : State} (h : narrow_1.before args s = true) : (Cond.eq (.elem (.field (.string "TongueHouseModel" 222) "java/lang/String" "value" "[B") (.int 3)) (.int 116)).before args s = true := lc_l (lc_l (lc_l (lc_l (lc_l (lc_r (lc_l (lc_r (h))))))))
theorem gs9n45 {args : Array Value} {s : State} (h : narrow_1.before args s = true) : (Cond.eq (.elem (.field (.string "TongueHouseModel" 222) "java/lang/String" "value" "[B") (.int 4)) (.int 101)).before args s = true := lc_l (lc_r (lc_l (lc_l (lc_l (lc_l (lc_r (lc_l (lc_r (h)))))))))
theorem gs9n46 {args : Array Value} {s : State} (h : narrow_1.before args s = true) : (Cond.eq (.elem (.field (.string "TongueHouseModel" 222) "java/lang/String" "value" "[B") (.int 5)) (.int 114)).before args s = true := lc_r (lc_r (lc_l (lc_l (lc_l (lc_l (lc_r (lc_l (lc_r (h)))))))))
theorem gs9n47 {args : Array Value} {s : State} (h : narrow_1.before args s = true) : (Cond.eq (.elem (.field (.string "TongueHouseModel" 222) "java/lang/String" "value" "[B") (.int 6)) (.int 115)).before args s = true := lc_l (lc_l (lc_r (lc_l (lc_l (lc_l (lc_r (lc_l (lc_r (h)))))))))
theorem lc_s4 {args : Array Value} {s : State} (h : narrow_1.before args s = true) : lc_str args s 222 (gd_ln 222) (gd_bt 222) := by
  refine ⟨gs9n37 h, gs9n38 h, gs9n39 h, gs9n40 h, fun j hj => ?_⟩
  match j, hj with
  | 0, _ => exact gs9n41 h
  | 1, _ => exact gs9n42 h
  | 2, _ => exact gs9n43 h
  | 3, _ => exact gs9n44 h
  | 4, _ => exact gs9n45 h
  | 5, _ => exact gs9n46 h
  | 6, _ => exact gs9n47 h
  | k + 7, hk => exact absurd hk (by have : gd_ln 222 = 7 := rfl; omega)
theorem gs9n48 {args : Array Value} {s : State} (h : narrow_1.before args s = true) : (Cond.exactly (.string "TongueHouseModel" 227) "java/lang/String").before args s = true := lc_r (lc_l (lc_r (lc_l (lc_l (lc_l (lc_r (lc_l (lc_r (h)))))))))
theorem gs9n49 {args : Array Value} {s : State} (h : narrow_1.before args s = true) : (Cond.eq (.field (.string "TongueHouseModel" 227) "java/lang/String" "coder" "B") (.int 0)).before args s = true := lc_l (lc_r (lc_r (lc_l (lc_l (lc_l (lc_r (lc_l (lc_r (h)))))))))
theorem gs9n50 {args : Array Value} {s : State} (h : narrow_1.before args s = true) : (Cond.arrayOf (.field (.string "TongueHouseModel" 227) "java/lang/String" "value" "[B") .byte).before args s = true := lc_r (lc_r (lc_r (lc_l (lc_l (lc_l (lc_r (lc_l (lc_r (h)))))))))
theorem gs9n51 {args : Array Value} {s : State} (h : narrow_1.before args s = true) : (Cond.eq (.length (.field (.string "TongueHouseModel" 227) "java/lang/String" "value" "[B")) (.int 5)).before args s = true := lc_l (lc_l (lc_r (lc_l (lc_l (lc_r (lc_l (lc_r (h))))))))
theorem gs9n52 {args : Array Value} {s : State} (h : narrow_1.before args s = true) : (Cond.eq (.elem (.field (.string "TongueHouseModel" 227) "java/lang/String" "value" "[B") (.int 0)) (.int 115)).before args s = true := lc_l (lc_r (lc_l (lc_r (lc_l (lc_l (lc_r (lc_l (lc_r (h)))))))))
theorem gs9n53 {args : Array Value} {s : State} (h : narrow_1.before args s = true) : (Cond.eq (.elem (.field (.string "TongueHouseModel" 227) "java/lang/String" "value" "[B") (.int 1)) (.int 111)).before args s = true := lc_r (lc_r (lc_l (lc_r (lc_l (lc_l (lc_r (lc_l (lc_r (h)))))))))
theorem gs9n54 {args : Array Value} {s : State} (h : narrow_1.before args s = true) : (Cond.eq (.elem (.field (.string "TongueHouseModel" 227) "java/lang/String" "value" "[B") (.int 2)) (.int 117)).before args s = true := lc_l (lc_l (lc_r (lc_r (lc_l (lc_l (lc_r (lc_l (lc_r (h)))))))))
theorem gs9n55 {args : Array Value} {s : State} (h : narrow_1.before args s = true) : (Cond.eq (.elem (.field (.string "TongueHouseModel" 227) "java/lang/String" "value" "[B") (.int 3)) (.int 110)).before args s = true := lc_r (lc_l (lc_r (lc_r (lc_l (lc_l (lc_r (lc_l (lc_r (h)))))))))
theorem gs9n56 {args : Array Value} {s : State} (h : narrow_1.before args s = true) : (Cond.eq (.elem (.field (.string "TongueHouseModel" 227) "java/lang/String" "value" "[B") (.int 4)) (.int 100)).before args s = true := lc_l (lc_r (lc_r (lc_r (lc_l (lc_l (lc_r (lc_l (lc_r (h)))))))))
theorem lc_s5 {args : Array Value} {s : State} (h : narrow_1.before args s = true) : lc_str args s 227 (gd_ln 227) (gd_bt 227) := by
  refine ⟨gs9n48 h, gs9n49 h, gs9n50 h, gs9n51 h, fun j hj => ?_⟩
  match j, hj with
  | 0, _ => exact gs9n52 h
  | 1, _ => exact gs9n53 h
  | 2, _ => exact gs9n54 h
  | 3, _ => exact gs9n55 h
  | 4, _ => exact gs9n56 h
  | k + 5, hk => exact absurd hk (by have : gd_ln 227 = 5 := rfl; omega)
theorem gs9n57 {args : Array Value} {s : State} (h : narrow_1.before args s = true) : (Cond.exactly (.string "TongueHouseModel" 232) "java/lang/String").before args s = true := lc_r (lc_r (lc_r (lc_r (lc_l (lc_l (lc_r (lc_l (lc_r (h)))))))))
theorem gs9n58 {args : Array Value} {s : State} (h : narrow_1.before args s = true) : (Cond.eq (.field (.string "TongueHouseModel" 232) "java/lang/String" "coder" "B") (.int 0)).before args s = true := lc_l (lc_l (lc_l (lc_r (lc_l (lc_r (lc_l (lc_r (h))))))))
theorem gs9n59 {args : Array Value} {s : State} (h : narrow_1.before args s = true) : (Cond.arrayOf (.field (.string "TongueHouseModel" 232) "java/lang/String" "value" "[B") .byte).before args s = true := lc_l (lc_r (lc_l (lc_l (lc_r (lc_l (lc_r (lc_l (lc_r (h)))))))))
theorem gs9n60 {args : Array Value} {s : State} (h : narrow_1.before args s = true) : (Cond.eq (.length (.field (.string "TongueHouseModel" 232) "java/lang/String" "value" "[B")) (.int 7)).before args s = true := lc_r (lc_r (lc_l (lc_l (lc_r (lc_l (lc_r (lc_l (lc_r (h)))))))))
theorem gs9n61 {args : Array Value} {s : State} (h : narrow_1.before args s = true) : (Cond.eq (.elem (.field (.string "TongueHouseModel" 232) "java/lang/String" "value" "[B") (.int 0)) (.int 112)).before args s = true := lc_l (lc_l (lc_r (lc_l (lc_r (lc_l (lc_r (lc_l (lc_r (h)))))))))
theorem gs9n62 {args : Array Value} {s : State} (h : narrow_1.before args s = true) : (Cond.eq (.elem (.field (.string "TongueHouseModel" 232) "java/lang/String" "value" "[B") (.int 1)) (.int 97)).before args s = true := lc_r (lc_l (lc_r (lc_l (lc_r (lc_l (lc_r (lc_l (lc_r (h)))))))))
theorem gs9n63 {args : Array Value} {s : State} (h : narrow_1.before args s = true) : (Cond.eq (.elem (.field (.string "TongueHouseModel" 232) "java/lang/String" "value" "[B") (.int 2)) (.int 116)).before args s = true := lc_l (lc_r (lc_r (lc_l (lc_r (lc_l (lc_r (lc_l (lc_r (h)))))))))
theorem gs9n64 {args : Array Value} {s : State} (h : narrow_1.before args s = true) : (Cond.eq (.elem (.field (.string "TongueHouseModel" 232) "java/lang/String" "value" "[B") (.int 3)) (.int 116)).before args s = true := lc_r (lc_r (lc_r (lc_l (lc_r (lc_l (lc_r (lc_l (lc_r (h)))))))))
theorem gs9n65 {args : Array Value} {s : State} (h : narrow_1.before args s = true) : (Cond.eq (.elem (.field (.string "TongueHouseModel" 232) "java/lang/String" "value" "[B") (.int 4)) (.int 101)).before args s = true := lc_l (lc_l (lc_r (lc_r (lc_l (lc_r (lc_l (lc_r (h))))))))
theorem gs9n66 {args : Array Value} {s : State} (h : narrow_1.before args s = true) : (Cond.eq (.elem (.field (.string "TongueHouseModel" 232) "java/lang/String" "value" "[B") (.int 5)) (.int 114)).before args s = true := lc_l (lc_r (lc_l (lc_r (lc_r (lc_l (lc_r (lc_l (lc_r (h)))))))))
theorem gs9n67 {args : Array Value} {s : State} (h : narrow_1.before args s = true) : (Cond.eq (.elem (.field (.string "TongueHouseModel" 232) "java/lang/String" "value" "[B") (.int 6)) (.int 110)).before args s = true := lc_r (lc_r (lc_l (lc_r (lc_r (lc_l (lc_r (lc_l (lc_r (h)))))))))
theorem lc_s6 {args : Array Value} {s : State} (h : narrow_1.before args s = true) : lc_str args s 232 (gd_ln 232) (gd_bt 232) := by
  refine ⟨gs9n57 h, gs9n58 h, gs9n59 h, gs9n60 h, fun j hj => ?_⟩
  match j, hj with
  | 0, _ => exact gs9n61 h
  | 1, _ => exact gs9n62 h
  | 2, _ => exact gs9n63 h
  | 3, _ => exact gs9n64 h
  | 4, _ => exact gs9n65 h
  | 5, _ => exact gs9n66 h
  | 6, _ => exact gs9n67 h
  | k + 7, hk => exact absurd hk (by have : gd_ln 232 = 7 := rfl; omega)
theorem gs9n68 {args : Array Value} {s : State} (h : narrow_1.before args s = true) : (Cond.exactly (.string "TongueHouseModel" 237) "java/lang/String").before args s = true := lc_l (lc_l (lc_r (lc_r (lc_r (lc_l (lc_r (lc_l (lc_r (h)))))))))
theorem gs9n69 {args : Array Value} {s : State} (h : narrow_1.before args s = true) : (Cond.eq (.field (.string "TongueHouseModel" 237) "java/lang/String" "coder" "B") (.int 0)).before args s = true := lc_r (lc_l (lc_r (lc_r (lc_r (lc_l (lc_r (lc_l (lc_r (h)))))))))
theorem gs9n70 {args : Array Value} {s : State} (h : narrow_1.before args s = true) : (Cond.arrayOf (.field (.string "TongueHouseModel" 237) "java/lang/String" "value" "[B") .byte).before args s = true := lc_l (lc_r (lc_r (lc_r (lc_r (lc_l (lc_r (lc_l (lc_r (h)))))))))
theorem gs9n71 {args : Array Value} {s : State} (h : narrow_1.before args s = true) : (Cond.eq (.length (.field (.string "TongueHouseModel" 237) "java/lang/String" "value" "[B")) (.int 4)).before args s = true := lc_r (lc_r (lc_r (lc_r (lc_r (lc_l (lc_r (lc_l (lc_r (h)))))))))
theorem gs9n72 {args : Array Value} {s : State} (h : narrow_1.before args s = true) : (Cond.eq (.elem (.field (.string "TongueHouseModel" 237) "java/lang/String" "value" "[B") (.int 0)) (.int 119)).before args s = true := lc_l (lc_l (lc_l (lc_l (lc_r (lc_r (lc_l (lc_r (h))))))))
theorem gs9n73 {args : Array Value} {s : State} (h : narrow_1.before args s = true) : (Cond.eq (.elem (.field (.string "TongueHouseModel" 237) "java/lang/String" "value" "[B") (.int 1)) (.int 111)).before args s = true := lc_l (lc_r (lc_l (lc_l (lc_l (lc_r (lc_r (lc_l (lc_r (h)))))))))
theorem gs9n74 {args : Array Value} {s : State} (h : narrow_1.before args s = true) : (Cond.eq (.elem (.field (.string "TongueHouseModel" 237) "java/lang/String" "value" "[B") (.int 2)) (.int 114)).before args s = true := lc_r (lc_r (lc_l (lc_l (lc_l (lc_r (lc_r (lc_l (lc_r (h)))))))))
theorem gs9n75 {args : Array Value} {s : State} (h : narrow_1.before args s = true) : (Cond.eq (.elem (.field (.string "TongueHouseModel" 237) "java/lang/String" "value" "[B") (.int 3)) (.int 100)).before args s = true := lc_l (lc_l (lc_r (lc_l (lc_l (lc_r (lc_r (lc_l (lc_r (h)))))))))
theorem lc_s7 {args : Array Value} {s : State} (h : narrow_1.before args s = true) : lc_str args s 237 (gd_ln 237) (gd_bt 237) := by
  refine ⟨gs9n68 h, gs9n69 h, gs9n70 h, gs9n71 h, fun j hj => ?_⟩
  match j, hj with
  | 0, _ => exact gs9n72 h
  | 1, _ => exact gs9n73 h
  | 2, _ => exact gs9n74 h
  | 3, _ => exact gs9n75 h
  | k + 4, hk => exact absurd hk (by have : gd_ln 237 = 4 := rfl; omega)
theorem gs9n76 {args : Array Value} {s : State} (h : narrow_1.before args s = true) : (Cond.exactly (.string "TongueHouseModel" 241) "java/lang/String").before args s = true := lc_r (lc_l (lc_r (lc_l (lc_l (lc_r (lc_r (lc_l (lc_r (h)))))))))
theorem gs9n77 {args : Array Value} {s : State} (h : narrow_1.before args s = true) : (Cond.eq (.field (.string "TongueHouseModel" 241) "java/lang/String" "coder" "B") (.int 0)).before args s = true := lc_l (lc_r (lc_r (lc_l (lc_l (lc_r (lc_r (lc_l (lc_r (h)))))))))
theorem gs9n78 {args : Array Value} {s : State} (h : narrow_1.before args s = true) : (Cond.arrayOf (.field (.string "TongueHouseModel" 241) "java/lang/String" "value" "[B") .byte).before args s = true := lc_r (lc_r (lc_r (lc_l (lc_l (lc_r (lc_r (lc_l (lc_r (h)))))))))
theorem gs9n79 {args : Array Value} {s : State} (h : narrow_1.before args s = true) : (Cond.eq (.length (.field (.string "TongueHouseModel" 241) "java/lang/String" "value" "[B")) (.int 3)).before args s = true := lc_l (lc_l (lc_r (lc_l (lc_r (lc_r (lc_l (lc_r (h))))))))
theorem gs9n80 {args : Array Value} {s : State} (h : narrow_1.before args s = true) : (Cond.eq (.elem (.field (.string "TongueHouseModel" 241) "java/lang/String" "value" "[B") (.int 0)) (.int 108)).before args s = true := lc_l (lc_r (lc_l (lc_r (lc_l (lc_r (lc_r (lc_l (lc_r (h)))))))))
theorem gs9n81 {args : Array Value} {s : State} (h : narrow_1.before args s = true) : (Cond.eq (.elem (.field (.string "TongueHouseModel" 241) "java/lang/String" "value" "[B") (.int 1)) (.int 105)).before args s = true := lc_r (lc_r (lc_l (lc_r (lc_l (lc_r (lc_r (lc_l (lc_r (h)))))))))
theorem gs9n82 {args : Array Value} {s : State} (h : narrow_1.before args s = true) : (Cond.eq (.elem (.field (.string "TongueHouseModel" 241) "java/lang/String" "value" "[B") (.int 2)) (.int 110)).before args s = true := lc_l (lc_l (lc_r (lc_r (lc_l (lc_r (lc_r (lc_l (lc_r (h)))))))))
theorem lc_s8 {args : Array Value} {s : State} (h : narrow_1.before args s = true) : lc_str args s 241 (gd_ln 241) (gd_bt 241) := by
  refine ⟨gs9n76 h, gs9n77 h, gs9n78 h, gs9n79 h, fun j hj => ?_⟩
  match j, hj with
  | 0, _ => exact gs9n80 h
  | 1, _ => exact gs9n81 h
  | 2, _ => exact gs9n82 h
  | k + 3, hk => exact absurd hk (by have : gd_ln 241 = 3 := rfl; omega)
theorem gs9n83 {args : Array Value} {s : State} (h : narrow_1.before args s = true) : (Cond.exactly (.string "TongueHouseModel" 246) "java/lang/String").before args s = true := lc_r (lc_l (lc_r (lc_r (lc_l (lc_r (lc_r (lc_l (lc_r (h)))))))))
theorem gs9n84 {args : Array Value} {s : State} (h : narrow_1.before args s = true) : (Cond.eq (.field (.string "TongueHouseModel" 246) "java/lang/String" "coder" "B") (.int 0)).before args s = true := lc_l (lc_r (lc_r (lc_r (lc_l (lc_r (lc_r (lc_l (lc_r (h)))))))))
theorem gs9n85 {args : Array Value} {s : State} (h : narrow_1.before args s = true) : (Cond.arrayOf (.field (.string "TongueHouseModel" 246) "java/lang/String" "value" "[B") .byte).before args s = true := lc_r (lc_r (lc_r (lc_r (lc_l (lc_r (lc_r (lc_l (lc_r (h)))))))))
theorem gs9n86 {args : Array Value} {s : State} (h : narrow_1.before args s = true) : (Cond.eq (.length (.field (.string "TongueHouseModel" 246) "java/lang/String" "value" "[B")) (.int 4)).before args s = true := lc_l (lc_l (lc_l (lc_r (lc_r (lc_r (lc_l (lc_r (h))))))))
theorem gs9n87 {args : Array Value} {s : State} (h : narrow_1.before args s = true) : (Cond.eq (.elem (.field (.string "TongueHouseModel" 246) "java/lang/String" "value" "[B") (.int 0)) (.int 109)).before args s = true := lc_l (lc_r (lc_l (lc_l (lc_r (lc_r (lc_r (lc_l (lc_r (h)))))))))
theorem gs9n88 {args : Array Value} {s : State} (h : narrow_1.before args s = true) : (Cond.eq (.elem (.field (.string "TongueHouseModel" 246) "java/lang/String" "value" "[B") (.int 1)) (.int 101)).before args s = true := lc_r (lc_r (lc_l (lc_l (lc_r (lc_r (lc_r (lc_l (lc_r (h)))))))))
theorem gs9n89 {args : Array Value} {s : State} (h : narrow_1.before args s = true) : (Cond.eq (.elem (.field (.string "TongueHouseModel" 246) "java/lang/String" "value" "[B") (.int 2)) (.int 97)).before args s = true := lc_l (lc_l (lc_r (lc_l (lc_r (lc_r (lc_r (lc_l (lc_r (h)))))))))
theorem gs9n90 {args : Array Value} {s : State} (h : narrow_1.before args s = true) : (Cond.eq (.elem (.field (.string "TongueHouseModel" 246) "java/lang/String" "value" "[B") (.int 3)) (.int 110)).before args s = true := lc_r (lc_l (lc_r (lc_l (lc_r (lc_r (lc_r (lc_l (lc_r (h)))))))))
theorem lc_s9 {args : Array Value} {s : State} (h : narrow_1.before args s = true) : lc_str args s 246 (gd_ln 246) (gd_bt 246) := by
  refine ⟨gs9n83 h, gs9n84 h, gs9n85 h, gs9n86 h, fun j hj => ?_⟩
  match j, hj with
  | 0, _ => exact gs9n87 h
  | 1, _ => exact gs9n88 h
  | 2, _ => exact gs9n89 h
  | 3, _ => exact gs9n90 h
  | k + 4, hk => exact absurd hk (by have : gd_ln 246 = 4 := rfl; omega)
theorem gs9n91 {args : Array Value} {s : State} (h : narrow_1.before args s = true) : (Cond.exactly (.string "TongueHouseModel" 251) "java/lang/String").before args s = true := lc_l (lc_r (lc_r (lc_l (lc_r (lc_r (lc_r (lc_l (lc_r (h)))))))))
theorem gs9n92 {args : Array Value} {s : State} (h : narrow_1.before args s = true) : (Cond.eq (.field (.string "TongueHouseModel" 251) "java/lang/String" "coder" "B") (.int 0)).before args s = true := lc_r (lc_r (lc_r (lc_l (lc_r (lc_r (lc_r (lc_l (lc_r (h)))))))))
theorem gs9n93 {args : Array Value} {s : State} (h : narrow_1.before args s = true) : (Cond.arrayOf (.field (.string "TongueHouseModel" 251) "java/lang/String" "value" "[B") .byte).before args s = true := lc_l (lc_l (lc_l (lc_r (lc_r (lc_r (lc_r (lc_l (lc_r (h)))))))))
theorem gs9n94 {args : Array Value} {s : State} (h : narrow_1.before args s = true) : (Cond.eq (.length (.field (.string "TongueHouseModel" 251) "java/lang/String" "value" "[B")) (.int 5)).before args s = true := lc_r (lc_l (lc_l (lc_r (lc_r (lc_r (lc_r (lc_l (lc_r (h)))))))))
theorem gs9n95 {args : Array Value} {s : State} (h : narrow_1.before args s = true) : (Cond.eq (.elem (.field (.string "TongueHouseModel" 251) "java/lang/String" "value" "[B") (.int 0)) (.int 116)).before args s = true := lc_l (lc_r (lc_l (lc_r (lc_r (lc_r (lc_r (lc_l (lc_r (h)))))))))
theorem gs9n96 {args : Array Value} {s : State} (h : narrow_1.before args s = true) : (Cond.eq (.elem (.field (.string "TongueHouseModel" 251) "java/lang/String" "value" "[B") (.int 1)) (.int 104)).before args s = true := lc_r (lc_r (lc_l (lc_r (lc_r (lc_r (lc_r (lc_l (lc_r (h)))))))))
theorem gs9n97 {args : Array Value} {s : State} (h : narrow_1.before args s = true) : (Cond.eq (.elem (.field (.string "TongueHouseModel" 251) "java/lang/String" "value" "[B") (.int 2)) (.int 105)).before args s = true := lc_l (lc_l (lc_r (lc_r (lc_r (lc_r (lc_r (lc_l (lc_r (h)))))))))
theorem gs9n98 {args : Array Value} {s : State} (h : narrow_1.before args s = true) : (Cond.eq (.elem (.field (.string "TongueHouseModel" 251) "java/lang/String" "value" "[B") (.int 3)) (.int 110)).before args s = true := lc_r (lc_l (lc_r (lc_r (lc_r (lc_r (lc_r (lc_l (lc_r (h)))))))))
theorem gs9n99 {args : Array Value} {s : State} (h : narrow_1.before args s = true) : (Cond.eq (.elem (.field (.string "TongueHouseModel" 251) "java/lang/String" "value" "[B") (.int 4)) (.int 103)).before args s = true := lc_l (lc_r (lc_r (lc_r (lc_r (lc_r (lc_r (lc_l (lc_r (h)))))))))
theorem lc_s10 {args : Array Value} {s : State} (h : narrow_1.before args s = true) : lc_str args s 251 (gd_ln 251) (gd_bt 251) := by
  refine ⟨gs9n91 h, gs9n92 h, gs9n93 h, gs9n94 h, fun j hj => ?_⟩
  match j, hj with
  | 0, _ => exact gs9n95 h
  | 1, _ => exact gs9n96 h
  | 2, _ => exact gs9n97 h
  | 3, _ => exact gs9n98 h
  | 4, _ => exact gs9n99 h
  | k + 5, hk => exact absurd hk (by have : gd_ln 251 = 5 := rfl; omega)
theorem gs9n100 {args : Array Value} {s : State} (h : narrow_1.before args s = true) : (Cond.exactly (.string "TongueHouseModel" 256) "java/lang/String").before args s = true := lc_r (lc_r (lc_r (lc_r (lc_r (lc_r (lc_r (lc_l (lc_r (h)))))))))
theorem gs9n101 {args : Array Value} {s : State} (h : narrow_1.before args s = true) : (Cond.eq (.field (.string "TongueHouseModel" 256) "java/lang/String" "coder" "B") (.int 0)).before args s = true := lc_l (lc_l (lc_l (lc_l (lc_l (lc_l (lc_r (lc_r (h))))))))
theorem gs9n102 {args : Array Value} {s : State} (h : narrow_1.before args s = true) : (Cond.arrayOf (.field (.string "TongueHouseModel" 256) "java/lang/String" "value" "[B") .byte).before args s = true := lc_l (lc_r (lc_l (lc_l (lc_l (lc_l (lc_l (lc_r (lc_r (h)))))))))
theorem gs9n103 {args : Array Value} {s : State} (h : narrow_1.before args s = true) : (Cond.eq (.length (.field (.string "TongueHouseModel" 256) "java/lang/String" "value" "[B")) (.int 4)).before args s = true := lc_r (lc_r (lc_l (lc_l (lc_l (lc_l (lc_l (lc_r (lc_r (h)))))))))
theorem gs9n104 {args : Array Value} {s : State} (h : narrow_1.before args s = true) : (Cond.eq (.elem (.field (.string "TongueHouseModel" 256) "java/lang/String" "value" "[B") (.int 0)) (.int 102)).before args s = true := lc_l (lc_l (lc_r (lc_l (lc_l (lc_l (lc_l (lc_r (lc_r (h)))))))))
theorem gs9n105 {args : Array Value} {s : State} (h : narrow_1.before args s = true) : (Cond.eq (.elem (.field (.string "TongueHouseModel" 256) "java/lang/String" "value" "[B") (.int 1)) (.int 97)).before args s = true := lc_r (lc_l (lc_r (lc_l (lc_l (lc_l (lc_l (lc_r (lc_r (h)))))))))
theorem gs9n106 {args : Array Value} {s : State} (h : narrow_1.before args s = true) : (Cond.eq (.elem (.field (.string "TongueHouseModel" 256) "java/lang/String" "value" "[B") (.int 2)) (.int 99)).before args s = true := lc_l (lc_r (lc_r (lc_l (lc_l (lc_l (lc_l (lc_r (lc_r (h)))))))))
theorem gs9n107 {args : Array Value} {s : State} (h : narrow_1.before args s = true) : (Cond.eq (.elem (.field (.string "TongueHouseModel" 256) "java/lang/String" "value" "[B") (.int 3)) (.int 116)).before args s = true := lc_r (lc_r (lc_r (lc_l (lc_l (lc_l (lc_l (lc_r (lc_r (h)))))))))
theorem lc_s11 {args : Array Value} {s : State} (h : narrow_1.before args s = true) : lc_str args s 256 (gd_ln 256) (gd_bt 256) := by
  refine ⟨gs9n100 h, gs9n101 h, gs9n102 h, gs9n103 h, fun j hj => ?_⟩
  match j, hj with
  | 0, _ => exact gs9n104 h
  | 1, _ => exact gs9n105 h
  | 2, _ => exact gs9n106 h
  | 3, _ => exact gs9n107 h
  | k + 4, hk => exact absurd hk (by have : gd_ln 256 = 4 := rfl; omega)
theorem gs9n108 {args : Array Value} {s : State} (h : narrow_1.before args s = true) : (Cond.exactly (.string "TongueHouseModel" 261) "java/lang/String").before args s = true := lc_l (lc_l (lc_r (lc_l (lc_l (lc_l (lc_r (lc_r (h))))))))
theorem gs9n109 {args : Array Value} {s : State} (h : narrow_1.before args s = true) : (Cond.eq (.field (.string "TongueHouseModel" 261) "java/lang/String" "coder" "B") (.int 0)).before args s = true := lc_l (lc_r (lc_l (lc_r (lc_l (lc_l (lc_l (lc_r (lc_r (h)))))))))
theorem gs9n110 {args : Array Value} {s : State} (h : narrow_1.before args s = true) : (Cond.arrayOf (.field (.string "TongueHouseModel" 261) "java/lang/String" "value" "[B") .byte).before args s = true := lc_r (lc_r (lc_l (lc_r (lc_l (lc_l (lc_l (lc_r (lc_r (h)))))))))
theorem gs9n111 {args : Array Value} {s : State} (h : narrow_1.before args s = true) : (Cond.eq (.length (.field (.string "TongueHouseModel" 261) "java/lang/String" "value" "[B")) (.int 4)).before args s = true := lc_l (lc_l (lc_r (lc_r (lc_l (lc_l (lc_l (lc_r (lc_r (h)))))))))
theorem gs9n112 {args : Array Value} {s : State} (h : narrow_1.before args s = true) : (Cond.eq (.elem (.field (.string "TongueHouseModel" 261) "java/lang/String" "value" "[B") (.int 0)) (.int 99)).before args s = true := lc_r (lc_l (lc_r (lc_r (lc_l (lc_l (lc_l (lc_r (lc_r (h)))))))))
theorem gs9n113 {args : Array Value} {s : State} (h : narrow_1.before args s = true) : (Cond.eq (.elem (.field (.string "TongueHouseModel" 261) "java/lang/String" "value" "[B") (.int 1)) (.int 111)).before args s = true := lc_l (lc_r (lc_r (lc_r (lc_l (lc_l (lc_l (lc_r (lc_r (h)))))))))
theorem gs9n114 {args : Array Value} {s : State} (h : narrow_1.before args s = true) : (Cond.eq (.elem (.field (.string "TongueHouseModel" 261) "java/lang/String" "value" "[B") (.int 2)) (.int 115)).before args s = true := lc_r (lc_r (lc_r (lc_r (lc_l (lc_l (lc_l (lc_r (lc_r (h)))))))))
theorem gs9n115 {args : Array Value} {s : State} (h : narrow_1.before args s = true) : (Cond.eq (.elem (.field (.string "TongueHouseModel" 261) "java/lang/String" "value" "[B") (.int 3)) (.int 116)).before args s = true := lc_l (lc_l (lc_l (lc_r (lc_l (lc_l (lc_r (lc_r (h))))))))
theorem lc_s12 {args : Array Value} {s : State} (h : narrow_1.before args s = true) : lc_str args s 261 (gd_ln 261) (gd_bt 261) := by
  refine ⟨gs9n108 h, gs9n109 h, gs9n110 h, gs9n111 h, fun j hj => ?_⟩
  match j, hj with
  | 0, _ => exact gs9n112 h
  | 1, _ => exact gs9n113 h
  | 2, _ => exact gs9n114 h
  | 3, _ => exact gs9n115 h
  | k + 4, hk => exact absurd hk (by have : gd_ln 261 = 4 := rfl; omega)
theorem gs9n116 {args : Array Value} {s : State} (h : narrow_1.before args s = true) : (Cond.exactly (.string "TongueHouseModel" 266) "java/lang/String").before args s = true := lc_l (lc_r (lc_l (lc_l (lc_r (lc_l (lc_l (lc_r (lc_r (h)))))))))
theorem gs9n117 {args : Array Value} {s : State} (h : narrow_1.before args s = true) : (Cond.eq (.field (.string "TongueHouseModel" 266) "java/lang/String" "coder" "B") (.int 0)).before args s = true := lc_r (lc_r (lc_l (lc_l (lc_r (lc_l (lc_l (lc_r (lc_r (h)))))))))
theorem gs9n118 {args : Array Value} {s : State} (h : narrow_1.before args s = true) : (Cond.arrayOf (.field (.string "TongueHouseModel" 266) "java/lang/String" "value" "[B") .byte).before args s = true := lc_l (lc_l (lc_r (lc_l (lc_r (lc_l (lc_l (lc_r (lc_r (h)))))))))
theorem gs9n119 {args : Array Value} {s : State} (h : narrow_1.before args s = true) : (Cond.eq (.length (.field (.string "TongueHouseModel" 266) "java/lang/String" "value" "[B")) (.int 3)).before args s = true := lc_r (lc_l (lc_r (lc_l (lc_r (lc_l (lc_l (lc_r (lc_r (h)))))))))
theorem gs9n120 {args : Array Value} {s : State} (h : narrow_1.before args s = true) : (Cond.eq (.elem (.field (.string "TongueHouseModel" 266) "java/lang/String" "value" "[B") (.int 0)) (.int 104)).before args s = true := lc_l (lc_r (lc_r (lc_l (lc_r (lc_l (lc_l (lc_r (lc_r (h)))))))))
theorem gs9n121 {args : Array Value} {s : State} (h : narrow_1.before args s = true) : (Cond.eq (.elem (.field (.string "TongueHouseModel" 266) "java/lang/String" "value" "[B") (.int 1)) (.int 97)).before args s = true := lc_r (lc_r (lc_r (lc_l (lc_r (lc_l (lc_l (lc_r (lc_r (h)))))))))
theorem gs9n122 {args : Array Value} {s : State} (h : narrow_1.before args s = true) : (Cond.eq (.elem (.field (.string "TongueHouseModel" 266) "java/lang/String" "value" "[B") (.int 2)) (.int 115)).before args s = true := lc_l (lc_l (lc_r (lc_r (lc_l (lc_l (lc_r (lc_r (h))))))))
theorem lc_s13 {args : Array Value} {s : State} (h : narrow_1.before args s = true) : lc_str args s 266 (gd_ln 266) (gd_bt 266) := by
  refine ⟨gs9n116 h, gs9n117 h, gs9n118 h, gs9n119 h, fun j hj => ?_⟩
  match j, hj with
  | 0, _ => exact gs9n120 h
  | 1, _ => exact gs9n121 h
  | 2, _ => exact gs9n122 h
  | k + 3, hk => exact absurd hk (by have : gd_ln 266 = 3 := rfl; omega)
theorem gs9n123 {args : Array Value} {s : State} (h : narrow_1.before args s = true) : (Cond.exactly (.string "TongueHouseModel" 271) "java/lang/String").before args s = true := lc_l (lc_r (lc_l (lc_r (lc_r (lc_l (lc_l (lc_r (lc_r (h)))))))))
theorem gs9n124 {args : Array Value} {s : State} (h : narrow_1.before args s = true) : (Cond.eq (.field (.string "TongueHouseModel" 271) "java/lang/String" "coder" "B") (.int 0)).before args s = true := lc_r (lc_r (lc_l (lc_r (lc_r (lc_l (lc_l (lc_r (lc_r (h)))))))))
theorem gs9n125 {args : Array Value} {s : State} (h : narrow_1.before args s = true) : (Cond.arrayOf (.field (.string "TongueHouseModel" 271) "java/lang/String" "value" "[B") .byte).before args s = true := lc_l (lc_l (lc_r (lc_r (lc_r (lc_l (lc_l (lc_r (lc_r (h)))))))))
theorem gs9n126 {args : Array Value} {s : State} (h : narrow_1.before args s = true) : (Cond.eq (.length (.field (.string "TongueHouseModel" 271) "java/lang/String" "value" "[B")) (.int 2)).before args s = true := lc_r (lc_l (lc_r (lc_r (lc_r (lc_l (lc_l (lc_r (lc_r (h)))))))))
theorem gs9n127 {args : Array Value} {s : State} (h : narrow_1.before args s = true) : (Cond.eq (.elem (.field (.string "TongueHouseModel" 271) "java/lang/String" "value" "[B") (.int 0)) (.int 111)).before args s = true := lc_l (lc_r (lc_r (lc_r (lc_r (lc_l (lc_l (lc_r (lc_r (h)))))))))
theorem gs9n128 {args : Array Value} {s : State} (h : narrow_1.before args s = true) : (Cond.eq (.elem (.field (.string "TongueHouseModel" 271) "java/lang/String" "value" "[B") (.int 1)) (.int 102)).before args s = true := lc_r (lc_r (lc_r (lc_r (lc_r (lc_l (lc_l (lc_r (lc_r (h)))))))))
theorem lc_s14 {args : Array Value} {s : State} (h : narrow_1.before args s = true) : lc_str args s 271 (gd_ln 271) (gd_bt 271) := by
  refine ⟨gs9n123 h, gs9n124 h, gs9n125 h, gs9n126 h, fun j hj => ?_⟩
  match j, hj with
  | 0, _ => exact gs9n127 h
  | 1, _ => exact gs9n128 h
  | k + 2, hk => exact absurd hk (by have : gd_ln 271 = 2 := rfl; omega)
theorem gs9n129 {args : Array Value} {s : State} (h : narrow_1.before args s = true) : (Cond.exactly (.string "TongueHouseModel" 276) "java/lang/String").before args s = true := lc_l (lc_l (lc_l (lc_l (lc_r (lc_l (lc_r (lc_r (h))))))))
theorem gs9n130 {args : Array Value} {s : State} (h : narrow_1.before args s = true) : (Cond.eq (.field (.string "TongueHouseModel" 276) "java/lang/String" "coder" "B") (.int 0)).before args s = true := lc_l (lc_r (lc_l (lc_l (lc_l (lc_r (lc_l (lc_r (lc_r (h)))))))))
theorem gs9n131 {args : Array Value} {s : State} (h : narrow_1.before args s = true) : (Cond.arrayOf (.field (.string "TongueHouseModel" 276) "java/lang/String" "value" "[B") .byte).before args s = true := lc_r (lc_r (lc_l (lc_l (lc_l (lc_r (lc_l (lc_r (lc_r (h)))))))))
theorem gs9n132 {args : Array Value} {s : State} (h : narrow_1.before args s = true) : (Cond.eq (.length (.field (.string "TongueHouseModel" 276) "java/lang/String" "value" "[B")) (.int 5)).before args s = true := lc_l (lc_l (lc_r (lc_l (lc_l (lc_r (lc_l (lc_r (lc_r (h)))))))))
theorem gs9n133 {args : Array Value} {s : State} (h : narrow_1.before args s = true) : (Cond.eq (.elem (.field (.string "TongueHouseModel" 276) "java/lang/String" "value" "[B") (.int 0)) (.int 97)).before args s = true := lc_r (lc_l (lc_r (lc_l (lc_l (lc_r (lc_l (lc_r (lc_r (h)))))))))
theorem gs9n134 {args : Array Value} {s : State} (h : narrow_1.before args s = true) : (Cond.eq (.elem (.field (.string "TongueHouseModel" 276) "java/lang/String" "value" "[B") (.int 1)) (.int 103)).before args s = true := lc_l (lc_r (lc_r (lc_l (lc_l (lc_r (lc_l (lc_r (lc_r (h)))))))))
theorem gs9n135 {args : Array Value} {s : State} (h : narrow_1.before args s = true) : (Cond.eq (.elem (.field (.string "TongueHouseModel" 276) "java/lang/String" "value" "[B") (.int 2)) (.int 114)).before args s = true := lc_r (lc_r (lc_r (lc_l (lc_l (lc_r (lc_l (lc_r (lc_r (h)))))))))
theorem gs9n136 {args : Array Value} {s : State} (h : narrow_1.before args s = true) : (Cond.eq (.elem (.field (.string "TongueHouseModel" 276) "java/lang/String" "value" "[B") (.int 3)) (.int 101)).before args s = true := lc_l (lc_l (lc_r (lc_l (lc_r (lc_l (lc_r (lc_r (h))))))))
theorem gs9n137 {args : Array Value} {s : State} (h : narrow_1.before args s = true) : (Cond.eq (.elem (.field (.string "TongueHouseModel" 276) "java/lang/String" "value" "[B") (.int 4)) (.int 101)).before args s = true := lc_l (lc_r (lc_l (lc_r (lc_l (lc_r (lc_l (lc_r (lc_r (h)))))))))
theorem lc_s15 {args : Array Value} {s : State} (h : narrow_1.before args s = true) : lc_str args s 276 (gd_ln 276) (gd_bt 276) := by
  refine ⟨gs9n129 h, gs9n130 h, gs9n131 h, gs9n132 h, fun j hj => ?_⟩
  match j, hj with
  | 0, _ => exact gs9n133 h
  | 1, _ => exact gs9n134 h
  | 2, _ => exact gs9n135 h
  | 3, _ => exact gs9n136 h
  | 4, _ => exact gs9n137 h
  | k + 5, hk => exact absurd hk (by have : gd_ln 276 = 5 := rfl; omega)
theorem gs9n138 {args : Array Value} {s : State} (h : narrow_1.before args s = true) : (Cond.exactly (.string "TongueHouseModel" 281) "java/lang/String").before args s = true := lc_r (lc_r (lc_l (lc_r (lc_l (lc_r (lc_l (lc_r (lc_r (h)))))))))
theorem gs9n139 {args : Array Value} {s : State} (h : narrow_1.before args s = true) : (Cond.eq (.field (.string "TongueHouseModel" 281) "java/lang/String" "coder" "B") (.int 0)).before args s = true := lc_l (lc_l (lc_r (lc_r (lc_l (lc_r (lc_l (lc_r (lc_r (h)))))))))
theorem gs9n140 {args : Array Value} {s : State} (h : narrow_1.before args s = true) : (Cond.arrayOf (.field (.string "TongueHouseModel" 281) "java/lang/String" "value" "[B") .byte).before args s = true := lc_r (lc_l (lc_r (lc_r (lc_l (lc_r (lc_l (lc_r (lc_r (h)))))))))
theorem gs9n141 {args : Array Value} {s : State} (h : narrow_1.before args s = true) : (Cond.eq (.length (.field (.string "TongueHouseModel" 281) "java/lang/String" "value" "[B")) (.int 4)).before args s = true := lc_l (lc_r (lc_r (lc_r (lc_l (lc_r (lc_l (lc_r (lc_r (h)))))))))
theorem gs9n142 {args : Array Value} {s : State} (h : narrow_1.before args s = true) : (Cond.eq (.elem (.field (.string "TongueHouseModel" 281) "java/lang/String" "value" "[B") (.int 0)) (.int 103)).before args s = true := lc_r (lc_r (lc_r (lc_r (lc_l (lc_r (lc_l (lc_r (lc_r (h)))))))))
theorem gs9n143 {args : Array Value} {s : State} (h : narrow_1.before args s = true) : (Cond.eq (.elem (.field (.string "TongueHouseModel" 281) "java/lang/String" "value" "[B") (.int 1)) (.int 105)).before args s = true := lc_l (lc_l (lc_l (lc_r (lc_r (lc_l (lc_r (lc_r (h))))))))
theorem gs9n144 {args : Array Value} {s : State} (h : narrow_1.before args s = true) : (Cond.eq (.elem (.field (.string "TongueHouseModel" 281) "java/lang/String" "value" "[B") (.int 2)) (.int 118)).before args s = true := lc_l (lc_r (lc_l (lc_l (lc_r (lc_r (lc_l (lc_r (lc_r (h)))))))))
theorem gs9n145 {args : Array Value} {s : State} (h : narrow_1.before args s = true) : (Cond.eq (.elem (.field (.string "TongueHouseModel" 281) "java/lang/String" "value" "[B") (.int 3)) (.int 101)).before args s = true := lc_r (lc_r (lc_l (lc_l (lc_r (lc_r (lc_l (lc_r (lc_r (h)))))))))
theorem lc_s16 {args : Array Value} {s : State} (h : narrow_1.before args s = true) : lc_str args s 281 (gd_ln 281) (gd_bt 281) := by
  refine ⟨gs9n138 h, gs9n139 h, gs9n140 h, gs9n141 h, fun j hj => ?_⟩
  match j, hj with
  | 0, _ => exact gs9n142 h
  | 1, _ => exact gs9n143 h
  | 2, _ => exact gs9n144 h
  | 3, _ => exact gs9n145 h
  | k + 4, hk => exact absurd hk (by have : gd_ln 281 = 4 := rfl; omega)
theorem gs9n146 {args : Array Value} {s : State} (h : narrow_1.before args s = true) : (Cond.exactly (.string "TongueHouseModel" 541) "java/lang/String").before args s = true := lc_l (lc_l (lc_r (lc_l (lc_r (lc_r (lc_l (lc_r (lc_r (h)))))))))
theorem gs9n147 {args : Array Value} {s : State} (h : narrow_1.before args s = true) : (Cond.eq (.field (.string "TongueHouseModel" 541) "java/lang/String" "coder" "B") (.int 0)).before args s = true := lc_r (lc_l (lc_r (lc_l (lc_r (lc_r (lc_l (lc_r (lc_r (h)))))))))
theorem gs9n148 {args : Array Value} {s : State} (h : narrow_1.before args s = true) : (Cond.arrayOf (.field (.string "TongueHouseModel" 541) "java/lang/String" "value" "[B") .byte).before args s = true := lc_l (lc_r (lc_r (lc_l (lc_r (lc_r (lc_l (lc_r (lc_r (h)))))))))
theorem gs9n149 {args : Array Value} {s : State} (h : narrow_1.before args s = true) : (Cond.eq (.length (.field (.string "TongueHouseModel" 541) "java/lang/String" "value" "[B")) (.int 3)).before args s = true := lc_r (lc_r (lc_r (lc_l (lc_r (lc_r (lc_l (lc_r (lc_r (h)))))))))
theorem gs9n150 {args : Array Value} {s : State} (h : narrow_1.before args s = true) : (Cond.eq (.elem (.field (.string "TongueHouseModel" 541) "java/lang/String" "value" "[B") (.int 0)) (.int 97)).before args s = true := lc_l (lc_l (lc_l (lc_r (lc_r (lc_r (lc_l (lc_r (lc_r (h)))))))))
theorem gs9n151 {args : Array Value} {s : State} (h : narrow_1.before args s = true) : (Cond.eq (.elem (.field (.string "TongueHouseModel" 541) "java/lang/String" "value" "[B") (.int 1)) (.int 110)).before args s = true := lc_r (lc_l (lc_l (lc_r (lc_r (lc_r (lc_l (lc_r (lc_r (h)))))))))
theorem gs9n152 {args : Array Value} {s : State} (h : narrow_1.before args s = true) : (Cond.eq (.elem (.field (.string "TongueHouseModel" 541) "java/lang/String" "value" "[B") (.int 2)) (.int 100)).before args s = true := lc_l (lc_r (lc_l (lc_r (lc_r (lc_r (lc_l (lc_r (lc_r (h)))))))))
theorem lc_s17 {args : Array Value} {s : State} (h : narrow_1.before args s = true) : lc_str args s 541 (gd_ln 541) (gd_bt 541) := by
  refine ⟨gs9n146 h, gs9n147 h, gs9n148 h, gs9n149 h, fun j hj => ?_⟩
  match j, hj with
  | 0, _ => exact gs9n150 h
  | 1, _ => exact gs9n151 h
  | 2, _ => exact gs9n152 h
  | k + 3, hk => exact absurd hk (by have : gd_ln 541 = 3 := rfl; omega)
theorem gs9n153 {args : Array Value} {s : State} (h : narrow_1.before args s = true) : (Cond.exactly (.string "TongueHouseModel" 546) "java/lang/String").before args s = true := lc_r (lc_r (lc_l (lc_r (lc_r (lc_r (lc_l (lc_r (lc_r (h)))))))))
theorem gs9n154 {args : Array Value} {s : State} (h : narrow_1.before args s = true) : (Cond.eq (.field (.string "TongueHouseModel" 546) "java/lang/String" "coder" "B") (.int 0)).before args s = true := lc_l (lc_l (lc_r (lc_r (lc_r (lc_r (lc_l (lc_r (lc_r (h)))))))))
theorem gs9n155 {args : Array Value} {s : State} (h : narrow_1.before args s = true) : (Cond.arrayOf (.field (.string "TongueHouseModel" 546) "java/lang/String" "value" "[B") .byte).before args s = true := lc_r (lc_l (lc_r (lc_r (lc_r (lc_r (lc_l (lc_r (lc_r (h)))))))))
theorem gs9n156 {args : Array Value} {s : State} (h : narrow_1.before args s = true) : (Cond.eq (.length (.field (.string "TongueHouseModel" 546) "java/lang/String" "value" "[B")) (.int 2)).before args s = true := lc_l (lc_r (lc_r (lc_r (lc_r (lc_r (lc_l (lc_r (lc_r (h)))))))))
theorem gs9n157 {args : Array Value} {s : State} (h : narrow_1.before args s = true) : (Cond.eq (.elem (.field (.string "TongueHouseModel" 546) "java/lang/String" "value" "[B") (.int 0)) (.int 111)).before args s = true := lc_r (lc_r (lc_r (lc_r (lc_r (lc_r (lc_l (lc_r (lc_r (h)))))))))
theorem gs9n158 {args : Array Value} {s : State} (h : narrow_1.before args s = true) : (Cond.eq (.elem (.field (.string "TongueHouseModel" 546) "java/lang/String" "value" "[B") (.int 1)) (.int 114)).before args s = true := lc_l (lc_l (lc_l (lc_l (lc_l (lc_r (lc_r (lc_r (h))))))))
theorem lc_s18 {args : Array Value} {s : State} (h : narrow_1.before args s = true) : lc_str args s 546 (gd_ln 546) (gd_bt 546) := by
  refine ⟨gs9n153 h, gs9n154 h, gs9n155 h, gs9n156 h, fun j hj => ?_⟩
  match j, hj with
  | 0, _ => exact gs9n157 h
  | 1, _ => exact gs9n158 h
  | k + 2, hk => exact absurd hk (by have : gd_ln 546 = 2 := rfl; omega)
theorem gs9n159 {args : Array Value} {s : State} (h : narrow_1.before args s = true) : (Cond.exactly (.string "TongueHouseModel" 551) "java/lang/String").before args s = true := lc_l (lc_r (lc_l (lc_l (lc_l (lc_l (lc_r (lc_r (lc_r (h)))))))))
theorem gs9n160 {args : Array Value} {s : State} (h : narrow_1.before args s = true) : (Cond.eq (.field (.string "TongueHouseModel" 551) "java/lang/String" "coder" "B") (.int 0)).before args s = true := lc_r (lc_r (lc_l (lc_l (lc_l (lc_l (lc_r (lc_r (lc_r (h)))))))))
theorem gs9n161 {args : Array Value} {s : State} (h : narrow_1.before args s = true) : (Cond.arrayOf (.field (.string "TongueHouseModel" 551) "java/lang/String" "value" "[B") .byte).before args s = true := lc_l (lc_l (lc_r (lc_l (lc_l (lc_l (lc_r (lc_r (lc_r (h)))))))))
theorem gs9n162 {args : Array Value} {s : State} (h : narrow_1.before args s = true) : (Cond.eq (.length (.field (.string "TongueHouseModel" 551) "java/lang/String" "value" "[B")) (.int 2)).before args s = true := lc_r (lc_l (lc_r (lc_l (lc_l (lc_l (lc_r (lc_r (lc_r (h)))))))))
theorem gs9n163 {args : Array Value} {s : State} (h : narrow_1.before args s = true) : (Cond.eq (.elem (.field (.string "TongueHouseModel" 551) "java/lang/String" "value" "[B") (.int 0)) (.int 105)).before args s = true := lc_l (lc_r (lc_r (lc_l (lc_l (lc_l (lc_r (lc_r (lc_r (h)))))))))
theorem gs9n164 {args : Array Value} {s : State} (h : narrow_1.before args s = true) : (Cond.eq (.elem (.field (.string "TongueHouseModel" 551) "java/lang/String" "value" "[B") (.int 1)) (.int 102)).before args s = true := lc_r (lc_r (lc_r (lc_l (lc_l (lc_l (lc_r (lc_r (lc_r (h)))))))))
theorem lc_s19 {args : Array Value} {s : State} (h : narrow_1.before args s = true) : lc_str args s 551 (gd_ln 551) (gd_bt 551) := by
  refine ⟨gs9n159 h, gs9n160 h, gs9n161 h, gs9n162 h, fun j hj => ?_⟩
  match j, hj with
  | 0, _ => exact gs9n163 h
  | 1, _ => exact gs9n164 h
  | k + 2, hk => exact absurd hk (by have : gd_ln 551 = 2 := rfl; omega)
theorem gs9n165 {args : Array Value} {s : State} (h : narrow_1.before args s = true) : (Cond.exactly (.string "TongueHouseModel" 556) "java/lang/String").before args s = true := lc_l (lc_l (lc_r (lc_l (lc_l (lc_r (lc_r (lc_r (h))))))))
theorem gs9n166 {args : Array Value} {s : State} (h : narrow_1.before args s = true) : (Cond.eq (.field (.string "TongueHouseModel" 556) "java/lang/String" "coder" "B") (.int 0)).before args s = true := lc_l (lc_r (lc_l (lc_r (lc_l (lc_l (lc_r (lc_r (lc_r (h)))))))))
theorem gs9n167 {args : Array Value} {s : State} (h : narrow_1.before args s = true) : (Cond.arrayOf (.field (.string "TongueHouseModel" 556) "java/lang/String" "value" "[B") .byte).before args s = true := lc_r (lc_r (lc_l (lc_r (lc_l (lc_l (lc_r (lc_r (lc_r (h)))))))))
theorem gs9n168 {args : Array Value} {s : State} (h : narrow_1.before args s = true) : (Cond.eq (.length (.field (.string "TongueHouseModel" 556) "java/lang/String" "value" "[B")) (.int 3)).before args s = true := lc_l (lc_l (lc_r (lc_r (lc_l (lc_l (lc_r (lc_r (lc_r (h)))))))))
theorem gs9n169 {args : Array Value} {s : State} (h : narrow_1.before args s = true) : (Cond.eq (.elem (.field (.string "TongueHouseModel" 556) "java/lang/String" "value" "[B") (.int 0)) (.int 110)).before args s = true := lc_r (lc_l (lc_r (lc_r (lc_l (lc_l (lc_r (lc_r (lc_r (h)))))))))
theorem gs9n170 {args : Array Value} {s : State} (h : narrow_1.before args s = true) : (Cond.eq (.elem (.field (.string "TongueHouseModel" 556) "java/lang/String" "value" "[B") (.int 1)) (.int 111)).before args s = true := lc_l (lc_r (lc_r (lc_r (lc_l (lc_l (lc_r (lc_r (lc_r (h)))))))))
theorem gs9n171 {args : Array Value} {s : State} (h : narrow_1.before args s = true) : (Cond.eq (.elem (.field (.string "TongueHouseModel" 556) "java/lang/String" "value" "[B") (.int 2)) (.int 116)).before args s = true := lc_r (lc_r (lc_r (lc_r (lc_l (lc_l (lc_r (lc_r (lc_r (h)))))))))
theorem lc_s20 {args : Array Value} {s : State} (h : narrow_1.before args s = true) : lc_str args s 556 (gd_ln 556) (gd_bt 556) := by
  refine ⟨gs9n165 h, gs9n166 h, gs9n167 h, gs9n168 h, fun j hj => ?_⟩
  match j, hj with
  | 0, _ => exact gs9n169 h
  | 1, _ => exact gs9n170 h
  | 2, _ => exact gs9n171 h
  | k + 3, hk => exact absurd hk (by have : gd_ln 556 = 3 := rfl; omega)
theorem gs9n172 {args : Array Value} {s : State} (h : narrow_1.before args s = true) : (Cond.exactly (.string "TongueHouseModel" 561) "java/lang/String").before args s = true := lc_l (lc_l (lc_l (lc_r (lc_l (lc_r (lc_r (lc_r (h))))))))
theorem gs9n173 {args : Array Value} {s : State} (h : narrow_1.before args s = true) : (Cond.eq (.field (.string "TongueHouseModel" 561) "java/lang/String" "coder" "B") (.int 0)).before args s = true := lc_l (lc_r (lc_l (lc_l (lc_r (lc_l (lc_r (lc_r (lc_r (h)))))))))
theorem gs9n174 {args : Array Value} {s : State} (h : narrow_1.before args s = true) : (Cond.arrayOf (.field (.string "TongueHouseModel" 561) "java/lang/String" "value" "[B") .byte).before args s = true := lc_r (lc_r (lc_l (lc_l (lc_r (lc_l (lc_r (lc_r (lc_r (h)))))))))
theorem gs9n175 {args : Array Value} {s : State} (h : narrow_1.before args s = true) : (Cond.eq (.length (.field (.string "TongueHouseModel" 561) "java/lang/String" "value" "[B")) (.int 3)).before args s = true := lc_l (lc_l (lc_r (lc_l (lc_r (lc_l (lc_r (lc_r (lc_r (h)))))))))
theorem gs9n176 {args : Array Value} {s : State} (h : narrow_1.before args s = true) : (Cond.eq (.elem (.field (.string "TongueHouseModel" 561) "java/lang/String" "value" "[B") (.int 0)) (.int 97)).before args s = true := lc_r (lc_l (lc_r (lc_l (lc_r (lc_l (lc_r (lc_r (lc_r (h)))))))))
theorem gs9n177 {args : Array Value} {s : State} (h : narrow_1.before args s = true) : (Cond.eq (.elem (.field (.string "TongueHouseModel" 561) "java/lang/String" "value" "[B") (.int 1)) (.int 108)).before args s = true := lc_l (lc_r (lc_r (lc_l (lc_r (lc_l (lc_r (lc_r (lc_r (h)))))))))
theorem gs9n178 {args : Array Value} {s : State} (h : narrow_1.before args s = true) : (Cond.eq (.elem (.field (.string "TongueHouseModel" 561) "java/lang/String" "value" "[B") (.int 2)) (.int 108)).before args s = true := lc_r (lc_r (lc_r (lc_l (lc_r (lc_l (lc_r (lc_r (lc_r (h)))))))))
theorem lc_s21 {args : Array Value} {s : State} (h : narrow_1.before args s = true) : lc_str args s 561 (gd_ln 561) (gd_bt 561) := by
  refine ⟨gs9n172 h, gs9n173 h, gs9n174 h, gs9n175 h, fun j hj => ?_⟩
  match j, hj with
  | 0, _ => exact gs9n176 h
  | 1, _ => exact gs9n177 h
  | 2, _ => exact gs9n178 h
  | k + 3, hk => exact absurd hk (by have : gd_ln 561 = 3 := rfl; omega)
theorem gs9n179 {args : Array Value} {s : State} (h : narrow_1.before args s = true) : (Cond.exactly (.string "TongueHouseModel" 566) "java/lang/String").before args s = true := lc_l (lc_l (lc_l (lc_r (lc_r (lc_l (lc_r (lc_r (lc_r (h)))))))))
theorem gs9n180 {args : Array Value} {s : State} (h : narrow_1.before args s = true) : (Cond.eq (.field (.string "TongueHouseModel" 566) "java/lang/String" "coder" "B") (.int 0)).before args s = true := lc_r (lc_l (lc_l (lc_r (lc_r (lc_l (lc_r (lc_r (lc_r (h)))))))))
theorem gs9n181 {args : Array Value} {s : State} (h : narrow_1.before args s = true) : (Cond.arrayOf (.field (.string "TongueHouseModel" 566) "java/lang/String" "value" "[B") .byte).before args s = true := lc_l (lc_r (lc_l (lc_r (lc_r (lc_l (lc_r (lc_r (lc_r (h)))))))))
theorem gs9n182 {args : Array Value} {s : State} (h : narrow_1.before args s = true) : (Cond.eq (.length (.field (.string "TongueHouseModel" 566) "java/lang/String" "value" "[B")) (.int 4)).before args s = true := lc_r (lc_r (lc_l (lc_r (lc_r (lc_l (lc_r (lc_r (lc_r (h)))))))))
theorem gs9n183 {args : Array Value} {s : State} (h : narrow_1.before args s = true) : (Cond.eq (.elem (.field (.string "TongueHouseModel" 566) "java/lang/String" "value" "[B") (.int 0)) (.int 115)).before args s = true := lc_l (lc_l (lc_r (lc_r (lc_r (lc_l (lc_r (lc_r (lc_r (h)))))))))
theorem gs9n184 {args : Array Value} {s : State} (h : narrow_1.before args s = true) : (Cond.eq (.elem (.field (.string "TongueHouseModel" 566) "java/lang/String" "value" "[B") (.int 1)) (.int 111)).before args s = true := lc_r (lc_l (lc_r (lc_r (lc_r (lc_l (lc_r (lc_r (lc_r (h)))))))))
theorem gs9n185 {args : Array Value} {s : State} (h : narrow_1.before args s = true) : (Cond.eq (.elem (.field (.string "TongueHouseModel" 566) "java/lang/String" "value" "[B") (.int 2)) (.int 109)).before args s = true := lc_l (lc_r (lc_r (lc_r (lc_r (lc_l (lc_r (lc_r (lc_r (h)))))))))
theorem gs9n186 {args : Array Value} {s : State} (h : narrow_1.before args s = true) : (Cond.eq (.elem (.field (.string "TongueHouseModel" 566) "java/lang/String" "value" "[B") (.int 3)) (.int 101)).before args s = true := lc_r (lc_r (lc_r (lc_r (lc_r (lc_l (lc_r (lc_r (lc_r (h)))))))))
theorem lc_s22 {args : Array Value} {s : State} (h : narrow_1.before args s = true) : lc_str args s 566 (gd_ln 566) (gd_bt 566) := by
  refine ⟨gs9n179 h, gs9n180 h, gs9n181 h, gs9n182 h, fun j hj => ?_⟩
  match j, hj with
  | 0, _ => exact gs9n183 h
  | 1, _ => exact gs9n184 h
  | 2, _ => exact gs9n185 h
  | 3, _ => exact gs9n186 h
  | k + 4, hk => exact absurd hk (by have : gd_ln 566 = 4 := rfl; omega)
theorem gs9n187 {args : Array Value} {s : State} (h : narrow_1.before args s = true) : (Cond.exactly (.string "TongueHouseModel" 571) "java/lang/String").before args s = true := lc_l (lc_l (lc_l (lc_l (lc_r (lc_r (lc_r (lc_r (h))))))))
theorem gs9n188 {args : Array Value} {s : State} (h : narrow_1.before args s = true) : (Cond.eq (.field (.string "TongueHouseModel" 571) "java/lang/String" "coder" "B") (.int 0)).before args s = true := lc_l (lc_r (lc_l (lc_l (lc_l (lc_r (lc_r (lc_r (lc_r (h)))))))))
theorem gs9n189 {args : Array Value} {s : State} (h : narrow_1.before args s = true) : (Cond.arrayOf (.field (.string "TongueHouseModel" 571) "java/lang/String" "value" "[B") .byte).before args s = true := lc_r (lc_r (lc_l (lc_l (lc_l (lc_r (lc_r (lc_r (lc_r (h)))))))))
theorem gs9n190 {args : Array Value} {s : State} (h : narrow_1.before args s = true) : (Cond.eq (.length (.field (.string "TongueHouseModel" 571) "java/lang/String" "value" "[B")) (.int 2)).before args s = true := lc_l (lc_l (lc_r (lc_l (lc_l (lc_r (lc_r (lc_r (lc_r (h)))))))))
theorem gs9n191 {args : Array Value} {s : State} (h : narrow_1.before args s = true) : (Cond.eq (.elem (.field (.string "TongueHouseModel" 571) "java/lang/String" "value" "[B") (.int 0)) (.int 105)).before args s = true := lc_r (lc_l (lc_r (lc_l (lc_l (lc_r (lc_r (lc_r (lc_r (h)))))))))
theorem gs9n192 {args : Array Value} {s : State} (h : narrow_1.before args s = true) : (Cond.eq (.elem (.field (.string "TongueHouseModel" 571) "java/lang/String" "value" "[B") (.int 1)) (.int 115)).before args s = true := lc_l (lc_r (lc_r (lc_l (lc_l (lc_r (lc_r (lc_r (lc_r (h)))))))))
theorem lc_s23 {args : Array Value} {s : State} (h : narrow_1.before args s = true) : lc_str args s 571 (gd_ln 571) (gd_bt 571) := by
  refine ⟨gs9n187 h, gs9n188 h, gs9n189 h, gs9n190 h, fun j hj => ?_⟩
  match j, hj with
  | 0, _ => exact gs9n191 h
  | 1, _ => exact gs9n192 h
  | k + 2, hk => exact absurd hk (by have : gd_ln 571 = 2 := rfl; omega)
theorem gs9n193 {args : Array Value} {s : State} (h : narrow_1.before args s = true) : (Cond.exactly (.string "TongueHouseModel" 619) "java/lang/String").before args s = true := lc_r (lc_r (lc_r (lc_l (lc_l (lc_r (lc_r (lc_r (lc_r (h)))))))))
theorem gs9n194 {args : Array Value} {s : State} (h : narrow_1.before args s = true) : (Cond.eq (.field (.string "TongueHouseModel" 619) "java/lang/String" "coder" "B") (.int 0)).before args s = true := lc_l (lc_l (lc_r (lc_l (lc_r (lc_r (lc_r (lc_r (h))))))))
theorem gs9n195 {args : Array Value} {s : State} (h : narrow_1.before args s = true) : (Cond.arrayOf (.field (.string "TongueHouseModel" 619) "java/lang/String" "value" "[B") .byte).before args s = true := lc_l (lc_r (lc_l (lc_r (lc_l (lc_r (lc_r (lc_r (lc_r (h)))))))))
theorem gs9n196 {args : Array Value} {s : State} (h : narrow_1.before args s = true) : (Cond.eq (.length (.field (.string "TongueHouseModel" 619) "java/lang/String" "value" "[B")) (.int 19)).before args s = true := lc_r (lc_r (lc_l (lc_r (lc_l (lc_r (lc_r (lc_r (lc_r (h)))))))))
theorem gs9n197 {args : Array Value} {s : State} (h : narrow_1.before args s = true) : (Cond.eq (.elem (.field (.string "TongueHouseModel" 619) "java/lang/String" "value" "[B") (.int 0)) (.int 59)).before args s = true := lc_l (lc_l (lc_r (lc_r (lc_l (lc_r (lc_r (lc_r (lc_r (h)))))))))
theorem gs9n198 {args : Array Value} {s : State} (h : narrow_1.before args s = true) : (Cond.eq (.elem (.field (.string "TongueHouseModel" 619) "java/lang/String" "value" "[B") (.int 1)) (.int 61)).before args s = true := lc_r (lc_l (lc_r (lc_r (lc_l (lc_r (lc_r (lc_r (lc_r (h)))))))))
theorem gs9n199 {args : Array Value} {s : State} (h : narrow_1.before args s = true) : (Cond.eq (.elem (.field (.string "TongueHouseModel" 619) "java/lang/String" "value" "[B") (.int 2)) (.int 43)).before args s = true := lc_l (lc_r (lc_r (lc_r (lc_l (lc_r (lc_r (lc_r (lc_r (h)))))))))
theorem gs9n200 {args : Array Value} {s : State} (h : narrow_1.before args s = true) : (Cond.eq (.elem (.field (.string "TongueHouseModel" 619) "java/lang/String" "value" "[B") (.int 3)) (.int 62)).before args s = true := lc_r (lc_r (lc_r (lc_r (lc_l (lc_r (lc_r (lc_r (lc_r (h)))))))))
theorem gs9n201 {args : Array Value} {s : State} (h : narrow_1.before args s = true) : (Cond.eq (.elem (.field (.string "TongueHouseModel" 619) "java/lang/String" "value" "[B") (.int 4)) (.int 47)).before args s = true := lc_l (lc_l (lc_l (lc_r (lc_r (lc_r (lc_r (lc_r (h))))))))
theorem gs9n202 {args : Array Value} {s : State} (h : narrow_1.before args s = true) : (Cond.eq (.elem (.field (.string "TongueHouseModel" 619) "java/lang/String" "value" "[B") (.int 5)) (.int 95)).before args s = true := lc_l (lc_r (lc_l (lc_l (lc_r (lc_r (lc_r (lc_r (lc_r (h)))))))))
theorem gs9n203 {args : Array Value} {s : State} (h : narrow_1.before args s = true) : (Cond.eq (.elem (.field (.string "TongueHouseModel" 619) "java/lang/String" "value" "[B") (.int 6)) (.int 35)).before args s = true := lc_r (lc_r (lc_l (lc_l (lc_r (lc_r (lc_r (lc_r (lc_r (h)))))))))
theorem gs9n204 {args : Array Value} {s : State} (h : narrow_1.before args s = true) : (Cond.eq (.elem (.field (.string "TongueHouseModel" 619) "java/lang/String" "value" "[B") (.int 7)) (.int 40)).before args s = true := lc_l (lc_l (lc_r (lc_l (lc_r (lc_r (lc_r (lc_r (lc_r (h)))))))))
theorem gs9n205 {args : Array Value} {s : State} (h : narrow_1.before args s = true) : (Cond.eq (.elem (.field (.string "TongueHouseModel" 619) "java/lang/String" "value" "[B") (.int 8)) (.int 41)).before args s = true := lc_r (lc_l (lc_r (lc_l (lc_r (lc_r (lc_r (lc_r (lc_r (h)))))))))
theorem gs9n206 {args : Array Value} {s : State} (h : narrow_1.before args s = true) : (Cond.eq (.elem (.field (.string "TongueHouseModel" 619) "java/lang/String" "value" "[B") (.int 9)) (.int 44)).before args s = true := lc_l (lc_r (lc_r (lc_l (lc_r (lc_r (lc_r (lc_r (lc_r (h)))))))))
theorem gs9n207 {args : Array Value} {s : State} (h : narrow_1.before args s = true) : (Cond.eq (.elem (.field (.string "TongueHouseModel" 619) "java/lang/String" "value" "[B") (.int 10)) (.int 58)).before args s = true := lc_r (lc_r (lc_r (lc_l (lc_r (lc_r (lc_r (lc_r (lc_r (h)))))))))
theorem gs9n208 {args : Array Value} {s : State} (h : narrow_1.before args s = true) : (Cond.eq (.elem (.field (.string "TongueHouseModel" 619) "java/lang/String" "value" "[B") (.int 11)) (.int 46)).before args s = true := lc_l (lc_l (lc_l (lc_r (lc_r (lc_r (lc_r (lc_r (lc_r (h)))))))))
theorem gs9n209 {args : Array Value} {s : State} (h : narrow_1.before args s = true) : (Cond.eq (.elem (.field (.string "TongueHouseModel" 619) "java/lang/String" "value" "[B") (.int 12)) (.int 45)).before args s = true := lc_r (lc_l (lc_l (lc_r (lc_r (lc_r (lc_r (lc_r (lc_r (h)))))))))
theorem gs9n210 {args : Array Value} {s : State} (h : narrow_1.before args s = true) : (Cond.eq (.elem (.field (.string "TongueHouseModel" 619) "java/lang/String" "value" "[B") (.int 13)) (.int 42)).before args s = true := lc_l (lc_r (lc_l (lc_r (lc_r (lc_r (lc_r (lc_r (lc_r (h)))))))))
theorem gs9n211 {args : Array Value} {s : State} (h : narrow_1.before args s = true) : (Cond.eq (.elem (.field (.string "TongueHouseModel" 619) "java/lang/String" "value" "[B") (.int 14)) (.int 92)).before args s = true := lc_r (lc_r (lc_l (lc_r (lc_r (lc_r (lc_r (lc_r (lc_r (h)))))))))
theorem gs9n212 {args : Array Value} {s : State} (h : narrow_1.before args s = true) : (Cond.eq (.elem (.field (.string "TongueHouseModel" 619) "java/lang/String" "value" "[B") (.int 15)) (.int 91)).before args s = true := lc_l (lc_l (lc_r (lc_r (lc_r (lc_r (lc_r (lc_r (lc_r (h)))))))))
theorem gs9n213 {args : Array Value} {s : State} (h : narrow_1.before args s = true) : (Cond.eq (.elem (.field (.string "TongueHouseModel" 619) "java/lang/String" "value" "[B") (.int 16)) (.int 93)).before args s = true := lc_r (lc_l (lc_r (lc_r (lc_r (lc_r (lc_r (lc_r (lc_r (h)))))))))
theorem gs9n214 {args : Array Value} {s : State} (h : narrow_1.before args s = true) : (Cond.eq (.elem (.field (.string "TongueHouseModel" 619) "java/lang/String" "value" "[B") (.int 17)) (.int 123)).before args s = true := lc_l (lc_r (lc_r (lc_r (lc_r (lc_r (lc_r (lc_r (lc_r (h)))))))))
theorem gs9n215 {args : Array Value} {s : State} (h : narrow_1.before args s = true) : (Cond.eq (.elem (.field (.string "TongueHouseModel" 619) "java/lang/String" "value" "[B") (.int 18)) (.int 125)).before args s = true := lc_r (lc_r (lc_r (lc_r (lc_r (lc_r (lc_r (lc_r (lc_r (h)))))))))
theorem lc_s24 {args : Array Value} {s : State} (h : narrow_1.before args s = true) : lc_str args s 619 19 gz_sb := by
  refine ⟨gs9n193 h, gs9n194 h, gs9n195 h, gs9n196 h, fun j hj => ?_⟩
  match j, hj with
  | 0, _ => exact gs9n197 h
  | 1, _ => exact gs9n198 h
  | 2, _ => exact gs9n199 h
  | 3, _ => exact gs9n200 h
  | 4, _ => exact gs9n201 h
  | 5, _ => exact gs9n202 h
  | 6, _ => exact gs9n203 h
  | 7, _ => exact gs9n204 h
  | 8, _ => exact gs9n205 h
  | 9, _ => exact gs9n206 h
  | 10, _ => exact gs9n207 h
  | 11, _ => exact gs9n208 h
  | 12, _ => exact gs9n209 h
  | 13, _ => exact gs9n210 h
  | 14, _ => exact gs9n211 h
  | 15, _ => exact gs9n212 h
  | 16, _ => exact gs9n213 h
  | 17, _ => exact gs9n214 h
  | 18, _ => exact gs9n215 h
  | k + 19, hk => exact absurd hk (by have : (19 : Nat) = 19 := rfl; omega)
theorem lc_ss {args : Array Value} {s : State} (h : narrow_1.before args s = true) : ∀ x ∈ gd_strs, lc_str args s x.1 (gd_ln x.1) (gd_bt x.1) := List.forall_mem_cons.mpr ⟨lc_s0 h, List.forall_mem_cons.mpr ⟨lc_s1 h, List.forall_mem_cons.mpr ⟨lc_s2 h, List.forall_mem_cons.mpr ⟨lc_s3 h, List.forall_mem_cons.mpr ⟨lc_s4 h, List.forall_mem_cons.mpr ⟨lc_s5 h, List.forall_mem_cons.mpr ⟨lc_s6 h, List.forall_mem_cons.mpr ⟨lc_s7 h, List.forall_mem_cons.mpr ⟨lc_s8 h, List.forall_mem_cons.mpr ⟨lc_s9 h, List.forall_mem_cons.mpr ⟨lc_s10 h, List.forall_mem_cons.mpr ⟨lc_s11 h, List.forall_mem_cons.mpr ⟨lc_s12 h, List.forall_mem_cons.mpr ⟨lc_s13 h, List.forall_mem_cons.mpr ⟨lc_s14 h, List.forall_mem_cons.mpr ⟨lc_s15 h, List.forall_mem_cons.mpr ⟨lc_s16 h, List.forall_mem_cons.mpr ⟨lc_s17 h, List.forall_mem_cons.mpr ⟨lc_s18 h, List.forall_mem_cons.mpr ⟨lc_s19 h, List.forall_mem_cons.mpr ⟨lc_s20 h, List.forall_mem_cons.mpr ⟨lc_s21 h, List.forall_mem_cons.mpr ⟨lc_s22 h, List.forall_mem_cons.mpr ⟨lc_s23 h, fun _ h => absurd h List.not_mem_nil⟩⟩⟩⟩⟩⟩⟩⟩⟩⟩⟩⟩⟩⟩⟩⟩⟩⟩⟩⟩⟩⟩⟩⟩
theorem gs9n216 {args : Array Value} {s : State} (h : narrow_1.before args s = true) : (Cond.exactly (.string "TongueHouse" 106) "java/lang/String").before args s = true := lc_r (lc_l (lc_r (lc_r (lc_l (lc_r (lc_l (lc_l (lc_l (h)))))))))
theorem gs9n217 {args : Array Value} {s : State} (h : narrow_1.before args s = true) : (Cond.exactly (.string "TongueHouse" 117) "java/lang/String").before args s = true := lc_l (lc_r (lc_r (lc_r (lc_l (lc_l (lc_r (lc_l (lc_l (h)))))))))
theorem gs9n218 {args : Array Value} {s : State} (h : narrow_1.before args s = true) : (Cond.exactly (.string "TongueHouse" 143) "java/lang/String").before args s = true := lc_r (lc_l (lc_r (lc_l (lc_r (lc_r (lc_r (lc_l (lc_l (h)))))))))
theorem gs9n219 {args : Array Value} {s : State} (h : narrow_1.before args s = true) : (Cond.exactly (.string "TongueHouse" 210) "java/lang/String").before args s = true := lc_r (lc_r (lc_l (lc_r (lc_r (lc_l (lc_l (lc_r (lc_l (h)))))))))
theorem gs9n220 {args : Array Value} {s : State} (h : narrow_1.before args s = true) : (Cond.exactly (.string "TongueHouse" 216) "java/lang/String").before args s = true := lc_r (lc_l (lc_r (lc_r (lc_l (lc_r (lc_l (lc_r (lc_l (h)))))))))
theorem gs9n221 {args : Array Value} {s : State} (h : narrow_1.before args s = true) : (Cond.exactly (.string "TongueHouse" 240) "java/lang/String").before args s = true := lc_l (lc_l (lc_l (lc_r (lc_l (lc_r (lc_r (lc_l (h))))))))
theorem gs9n222 {args : Array Value} {s : State} (h : narrow_1.before args s = true) : (Cond.exactly (.string "TongueHouse" 298) "java/lang/String").before args s = true := lc_l (lc_l (lc_r (lc_l (lc_r (lc_r (lc_r (lc_r (lc_l (h)))))))))
theorem gs9n223 {args : Array Value} {s : State} (h : narrow_1.before args s = true) : (Cond.exactly (.string "TongueHouse" 360) "java/lang/String").before args s = true := lc_l (lc_r (lc_r (lc_l (lc_l (lc_l (lc_l (lc_r (lc_l (h)))))))))
theorem gs9n224 {args : Array Value} {s : State} (h : narrow_1.before args s = true) : (Cond.exactly (.string "TongueHouse" 362) "java/lang/String").before args s = true := lc_l (lc_r (lc_r (lc_r (lc_r (lc_r (lc_l (lc_r (lc_l (h)))))))))
theorem gs9n225 {args : Array Value} {s : State} (h : narrow_1.before args s = true) : (Cond.exactly (.string "TongueHouse" 364) "java/lang/String").before args s = true := lc_l (lc_l (lc_l (lc_l (lc_r (lc_r (lc_r (lc_l (h))))))))
theorem px1 {args : Array Value} {s : State} (h : narrow_1.before args s = true) : ∀ x ∈ px_strs, (Cond.exactly (.string RX12 x.1) "java/lang/String").before args s = true := List.forall_mem_cons.mpr ⟨gs9n216 h, List.forall_mem_cons.mpr ⟨gs9n217 h, List.forall_mem_cons.mpr ⟨gs9n218 h, List.forall_mem_cons.mpr ⟨gs9n219 h, List.forall_mem_cons.mpr ⟨gs9n220 h, List.forall_mem_cons.mpr ⟨gs9n221 h, List.forall_mem_cons.mpr ⟨gs9n222 h, List.forall_mem_cons.mpr ⟨gs9n223 h, List.forall_mem_cons.mpr ⟨gs9n224 h, List.forall_mem_cons.mpr ⟨gs9n225 h, fun _ h => absurd h List.not_mem_nil⟩⟩⟩⟩⟩⟩⟩⟩⟩⟩
set_option maxRecDepth 100000 in
theorem gs9t27 : Cond.stringRef RX13 197 "tongue" ∈ lw_tbl := pk_t9 _ (List.mem_of_getElem? (i := 91) rfl)
set_option maxRecDepth 100000 in
theorem gs9t28 : Cond.stringRef RX13 207 "kind" ∈ lw_tbl := pk_t9 _ (List.mem_of_getElem? (i := 143) rfl)
set_option maxRecDepth 100000 in
theorem gs9t29 : Cond.stringRef RX13 212 "fun" ∈ lw_tbl := pk_t9 _ (List.mem_of_getElem? (i := 144) rfl)
set_option maxRecDepth 100000 in
theorem gs9t30 : Cond.stringRef RX13 217 "feature" ∈ lw_tbl := pk_t9 _ (List.mem_of_getElem? (i := 145) rfl)
set_option maxRecDepth 100000 in
theorem gs9t31 : Cond.stringRef RX13 222 "letters" ∈ lw_tbl := pk_t9 _ (List.mem_of_getElem? (i := 146) rfl)
set_option maxRecDepth 100000 in
theorem gs9t32 : Cond.stringRef RX13 227 "sound" ∈ lw_tbl := pk_t9 _ (List.mem_of_getElem? (i := 147) rfl)
set_option maxRecDepth 100000 in
theorem gs9t33 : Cond.stringRef RX13 232 "pattern" ∈ lw_tbl := pk_t9 _ (List.mem_of_getElem? (i := 148) rfl)
set_option maxRecDepth 100000 in
theorem gs9t34 : Cond.stringRef RX13 237 "word" ∈ lw_tbl := pk_t9 _ (List.mem_of_getElem? (i := 149) rfl)
set_option maxRecDepth 100000 in
theorem gs9t35 : Cond.stringRef RX13 241 "lin" ∈ lw_tbl := pk_t9 _ (List.mem_of_getElem? (i := 150) rfl)
set_option maxRecDepth 100000 in
theorem gs9t36 : Cond.stringRef RX13 246 "mean" ∈ lw_tbl := pk_t9 _ (List.mem_of_getElem? (i := 151) rfl)
set_option maxRecDepth 100000 in
theorem gs9t37 : Cond.stringRef RX13 251 "thing" ∈ lw_tbl := pk_t9 _ (List.mem_of_getElem? (i := 152) rfl)
set_option maxRecDepth 100000 in
theorem gs9t38 : Cond.stringRef RX13 256 "fact" ∈ lw_tbl := pk_t9 _ (List.mem_of_getElem? (i := 153) rfl)
set_option maxRecDepth 100000 in
theorem gs9t39 : Cond.stringRef RX13 261 "cost" ∈ lw_tbl := pk_t9 _ (List.mem_of_getElem? (i := 154) rfl)
set_option maxRecDepth 100000 in
theorem gs9t40 : Cond.stringRef RX13 266 "has" ∈ lw_tbl := pk_t9 _ (List.mem_of_getElem? (i := 155) rfl)
set_option maxRecDepth 100000 in
theorem gs9t41 : Cond.stringRef RX13 271 "of" ∈ lw_tbl := pk_t9 _ (List.mem_of_getElem? (i := 156) rfl)
set_option maxRecDepth 100000 in
theorem gs9t42 : Cond.stringRef RX13 276 "agree" ∈ lw_tbl := pk_t9 _ (List.mem_of_getElem? (i := 157) rfl)
set_option maxRecDepth 100000 in
theorem gs9t43 : Cond.stringRef RX13 281 "give" ∈ lw_tbl := pk_t9 _ (List.mem_of_getElem? (i := 158) rfl)
set_option maxRecDepth 100000 in
theorem gs9t44 : Cond.stringRef RX13 541 "and" ∈ lw_tbl := pk_t9 _ (List.mem_of_getElem? (i := 164) rfl)
set_option maxRecDepth 100000 in
theorem gs9t45 : Cond.stringRef RX13 546 "or" ∈ lw_tbl := pk_t9 _ (List.mem_of_getElem? (i := 165) rfl)
set_option maxRecDepth 100000 in
theorem gs9t46 : Cond.stringRef RX13 551 "if" ∈ lw_tbl := pk_t9 _ (List.mem_of_getElem? (i := 166) rfl)
set_option maxRecDepth 100000 in
theorem gs9t47 : Cond.stringRef RX13 556 "not" ∈ lw_tbl := pk_t9 _ (List.mem_of_getElem? (i := 167) rfl)
set_option maxRecDepth 100000 in
theorem gs9t48 : Cond.stringRef RX13 561 "all" ∈ lw_tbl := pk_t9 _ (List.mem_of_getElem? (i := 168) rfl)
set_option maxRecDepth 100000 in
theorem gs9t49 : Cond.stringRef RX13 566 "some" ∈ lw_tbl := pk_t9 _ (List.mem_of_getElem? (i := 169) rfl)
set_option maxRecDepth 100000 in
theorem gs9t50 : Cond.stringRef RX13 571 "is" ∈ lw_tbl := pk_t9 _ (List.mem_of_getElem? (i := 170) rfl)
theorem ps6 : ∀ x ∈ gd_strs, Cond.stringRef RX13 x.1 x.2 ∈ lw_tbl := List.forall_mem_cons.mpr ⟨gs9t27, List.forall_mem_cons.mpr ⟨gs9t28, List.forall_mem_cons.mpr ⟨gs9t29, List.forall_mem_cons.mpr ⟨gs9t30, List.forall_mem_cons.mpr ⟨gs9t31, List.forall_mem_cons.mpr ⟨gs9t32, List.forall_mem_cons.mpr ⟨gs9t33, List.forall_mem_cons.mpr ⟨gs9t34, List.forall_mem_cons.mpr ⟨gs9t35, List.forall_mem_cons.mpr ⟨gs9t36, List.forall_mem_cons.mpr ⟨gs9t37, List.forall_mem_cons.mpr ⟨gs9t38, List.forall_mem_cons.mpr ⟨gs9t39, List.forall_mem_cons.mpr ⟨gs9t40, List.forall_mem_cons.mpr ⟨gs9t41, List.forall_mem_cons.mpr ⟨gs9t42, List.forall_mem_cons.mpr ⟨gs9t43, List.forall_mem_cons.mpr ⟨gs9t44, List.forall_mem_cons.mpr ⟨gs9t45, List.forall_mem_cons.mpr ⟨gs9t46, List.forall_mem_cons.mpr ⟨gs9t47, List.forall_mem_cons.mpr ⟨gs9t48, List.forall_mem_cons.mpr ⟨gs9t49, List.forall_mem_cons.mpr ⟨gs9t50, fun _ h => absurd h List.not_mem_nil⟩⟩⟩⟩⟩⟩⟩⟩⟩⟩⟩⟩⟩⟩⟩⟩⟩⟩⟩⟩⟩⟩⟩⟩
set_option maxRecDepth 100000 in
theorem gs9sx : Cond.stringRef RX13 619 gz_sx ∈ lw_tbl := pk_t12 _ (List.mem_of_getElem? (i := 181) rfl)
set_option maxRecDepth 100000 in
theorem gs9t51 : Cond.stringRef RX12 106 "the tape would be too long" ∈ lw_tbl := pk_t6 _ (List.mem_of_getElem? (i := 148) rfl)
set_option maxRecDepth 100000 in
theorem gs9t52 : Cond.stringRef RX12 117 "the tape has not so many bytes" ∈ lw_tbl := pk_t6 _ (List.mem_of_getElem? (i := 195) rfl)
set_option maxRecDepth 100000 in
theorem gs9t53 : Cond.stringRef RX12 143 "no such what" ∈ lw_tbl := pk_t6 _ (List.mem_of_getElem? (i := 209) rfl)
set_option maxRecDepth 100000 in
theorem gs9t54 : Cond.stringRef RX12 210 "no such word" ∈ lw_tbl := pk_t7 _ (List.mem_of_getElem? (i := 87) rfl)
set_option maxRecDepth 100000 in
theorem gs9t55 : Cond.stringRef RX12 216 "no such cell" ∈ lw_tbl := pk_t7 _ (List.mem_of_getElem? (i := 89) rfl)
set_option maxRecDepth 100000 in
theorem gs9t56 : Cond.stringRef RX12 240 "no such fun" ∈ lw_tbl := pk_t7 _ (List.mem_of_getElem? (i := 208) rfl)
set_option maxRecDepth 100000 in
theorem gs9t57 : Cond.stringRef RX12 298 "the collection is full" ∈ lw_tbl := pk_t8 _ (List.mem_of_getElem? (i := 209) rfl)
set_option maxRecDepth 100000 in
theorem gs9t58 : Cond.stringRef RX12 360 "no such tongue" ∈ lw_tbl := pk_t6 _ (List.mem_of_getElem? (i := 214) rfl)
set_option maxRecDepth 100000 in
theorem gs9t59 : Cond.stringRef RX12 362 "no such kind" ∈ lw_tbl := pk_t7 _ (List.mem_of_getElem? (i := 132) rfl)
set_option maxRecDepth 100000 in
theorem gs9t60 : Cond.stringRef RX12 364 "no such place" ∈ lw_tbl := pk_t7 _ (List.mem_of_getElem? (i := 223) rfl)
theorem px2 : ∀ x ∈ px_strs, Cond.stringRef RX12 x.1 x.2 ∈ lw_tbl := List.forall_mem_cons.mpr ⟨gs9t51, List.forall_mem_cons.mpr ⟨gs9t52, List.forall_mem_cons.mpr ⟨gs9t53, List.forall_mem_cons.mpr ⟨gs9t54, List.forall_mem_cons.mpr ⟨gs9t55, List.forall_mem_cons.mpr ⟨gs9t56, List.forall_mem_cons.mpr ⟨gs9t57, List.forall_mem_cons.mpr ⟨gs9t58, List.forall_mem_cons.mpr ⟨gs9t59, List.forall_mem_cons.mpr ⟨gs9t60, fun _ h => absurd h List.not_mem_nil⟩⟩⟩⟩⟩⟩⟩⟩⟩⟩
theorem ps7 : ∀ x ∈ gd_strs, gd_ln x.1 < 2 ^ 31 := by decide
theorem ps8 : ∀ x ∈ gd_strs, ∀ y ∈ gd_strs, x.1 = y.1 → x = y := by decide +kernel
theorem px8 : ∀ x ∈ px_strs, ∀ y ∈ px_strs, x.1 = y.1 → x = y := by decide +kernel
theorem px9 : ∀ x ∈ px_strs, x.1 ≠ 5000 := by decide +kernel
theorem pf0 {args : Array Value} {s : State} (h : narrow_1.before args s = true) : (Cond.isRef (.static "java/lang/Throwable" "UNASSIGNED_STACK" "[Ljava/lang/StackTraceElement;")).before args s = true := lc_r (lc_r (lc_l (lc_l (lc_l (lc_l (lc_l (lc_l (lc_l (h)))))))))
theorem pf1 {args : Array Value} {s : State} (h : narrow_1.before args s = true) : (Cond.isRef (.static "java/lang/Throwable" "SUPPRESSED_SENTINEL" "Ljava/util/List;")).before args s = true := lc_l (lc_l (lc_r (lc_l (lc_l (lc_l (lc_l (lc_l (lc_l (h)))))))))
theorem pf2 {args : Array Value} {s : State} (h : narrow_1.before args s = true) : (Cond.eq (.static "java/lang/String" "COMPACT_STRINGS" "Z") (.int 1)).before args s = true := lc_r (lc_l (lc_r (lc_l (lc_l (lc_l (lc_l (lc_l (lc_l (h)))))))))
theorem pf3 {args : Array Value} {s : State} (h : narrow_1.before args s = true) : (Cond.isRef (.static "jdk/internal/util/Preconditions" "SIOOBE_FORMATTER" "Ljava/util/function/BiFunction;")).before args s = true := lc_l (lc_r (lc_r (lc_l (lc_l (lc_l (lc_l (lc_l (lc_l (h)))))))))
set_option maxRecDepth 100000 in
theorem gs9t61 : Cond.laysStatic "java/lang/Throwable" "UNASSIGNED_STACK" "[Ljava/lang/StackTraceElement;" ∈ lw_tbl := pk_t6 _ (List.mem_of_getElem? (i := 135) rfl)
set_option maxRecDepth 100000 in
theorem gs9t62 : Cond.laysStatic "java/lang/Throwable" "SUPPRESSED_SENTINEL" "Ljava/util/List;" ∈ lw_tbl := pk_t6 _ (List.mem_of_getElem? (i := 137) rfl)
set_option maxRecDepth 100000 in
theorem gs9t63 : Cond.laysStatic "java/lang/String" "COMPACT_STRINGS" "Z" ∈ lw_tbl := pk_t9 _ (List.mem_of_getElem? (i := 104) rfl)
set_option maxRecDepth 100000 in
theorem gs9t64 : Cond.laysStatic "jdk/internal/util/Preconditions" "SIOOBE_FORMATTER" "Ljava/util/function/BiFunction;" ∈ lw_tbl := pk_t9 _ (List.mem_of_getElem? (i := 120) rfl)
set_option maxRecDepth 100000 in
theorem gs9t65 : Cond.initialized "java/lang/Throwable" ∈ lw_tbl := pk_t1 _ (List.mem_of_getElem? (i := 16) rfl)
set_option maxRecDepth 100000 in
theorem gs9t66 : Cond.initialized "java/lang/String" ∈ lw_tbl := pk_t1 _ (List.mem_of_getElem? (i := 12) rfl)
set_option maxRecDepth 100000 in
theorem gs9t67 : Cond.initialized "jdk/internal/util/Preconditions" ∈ lw_tbl := pk_t1 _ (List.mem_of_getElem? (i := 14) rfl)
set_option maxRecDepth 100000 in
theorem gs9t68 : Cond.castable "java/lang/IllegalArgumentException" "java/lang/IllegalArgumentException" ∈ lw_tbl := pk_t6 _ (List.mem_of_getElem? (i := 188) rfl)
set_option maxRecDepth 100000 in
theorem gs9t69 : Cond.castable "java/lang/IllegalStateException" "java/lang/IllegalStateException" ∈ lw_tbl := pk_t6 _ (List.mem_of_getElem? (i := 110) rfl)
set_option maxRecDepth 100000 in
theorem gs9t70 : Cond.castable "[B" "java/lang/Cloneable" ∈ lw_tbl := pk_t8 _ (List.mem_of_getElem? (i := 222) rfl)
set_option maxRecDepth 100000 in
theorem gs9t71 : Cond.declares ⟨"java/lang/RuntimeException", "<init>", "(Ljava/lang/String;)V"⟩ ∈ lw_tbl := pk_t6 _ (List.mem_of_getElem? (i := 112) rfl)
set_option maxRecDepth 100000 in
theorem gs9t72 : Cond.declares ⟨"java/lang/Exception", "<init>", "(Ljava/lang/String;)V"⟩ ∈ lw_tbl := pk_t6 _ (List.mem_of_getElem? (i := 114) rfl)
set_option maxRecDepth 100000 in
theorem gs9t73 : Cond.declares ⟨"java/lang/Throwable", "<init>", "(Ljava/lang/String;)V"⟩ ∈ lw_tbl := pk_t6 _ (List.mem_of_getElem? (i := 116) rfl)
theorem lc_pick {α : Type} {P : α → Nat → Prop} {key : α → Nat} (xs : List α) (hu : ∀ x ∈ xs, ∀ y ∈ xs, key x = key y → x = y) (h : ∀ x ∈ xs, ∃ q, P x q) : ∃ sa : Nat → Nat, ∀ x ∈ xs, P x (sa (key x)) := by
  have h0 : ∀ i : Nat, ∃ q : Nat, ∀ x ∈ xs, key x = i → P x q := fun i => by
    by_cases hi : ∃ x ∈ xs, key x = i
    · obtain ⟨x, hx, hxi⟩ := hi
      obtain ⟨q, hq⟩ := h x hx
      exact ⟨q, fun y hy hyi => by rw [hu y hy x hx (hyi.trans hxi.symm)]; exact hq⟩
    · exact ⟨0, fun x hx hxi => absurd ⟨x, hx, hxi⟩ hi⟩
  obtain ⟨sa, hsa⟩ := Classical.axiomOfChoice h0
  exact ⟨sa, fun x hx => hsa (key x) x hx rfl⟩
/-- one text with its bytes -/
theorem lc_one {s : State} {args : Array Value} (hts : ∀ w ∈ lw_tbl, w.before args s = true) (hnw : narrow_1.before args s = true) {k n : Nat} {tx : String} {by_ : Nat → Int32} (hn : n < 2 ^ 31) (hs : lc_str args s k n by_) (hr : Cond.stringRef RX13 k tx ∈ lw_tbl) : ∃ q v, vk_R RX13 k tx q s ∧ py_S q v n by_ (fun q : Nat => s.heap.size ≤ q) s s.heap := by
  have hA : ∀ a : Nat, a < s.heap.size → ¬ (fun q : Nat => s.heap.size ≤ q) a := fun a h => Nat.not_le.mpr h
  have hZ1 : va_Z "java/lang/String" "COMPACT_STRINGS" "Z" (.int 1) (fun q : Nat => s.heap.size ≤ q) s s.heap := va_Zof (hts _ gs9t63) (hts _ gs9t66) (va_eqi (pf2 hnw)) hA
  have hZ2 : va_Zq "jdk/internal/util/Preconditions" "SIOOBE_FORMATTER" "Ljava/util/function/BiFunction;" (fun q : Nat => s.heap.size ≤ q) s s.heap := va_Zqof (hts _ gs9t64) (hts _ gs9t67) (pf3 hnw) hA
  obtain ⟨a, c, cA, kA, q1, q2, q3, q4, q5, q6, -⟩ := Cond.exactly_spec (args := args) (first := s) (o := none) (s := s) (idx := []) (t := .string RX13 k) (cls := "java/lang/String") hs.1
  obtain ⟨t, ht, hT⟩ := va_Tof (f := fun j => .int (by_ j)) (A := fun q : Nat => s.heap.size ≤ q) hn hs.2.2.1 (va_eqt hs.2.2.2.1) (fun j hj => va_eqt (hs.2.2.2.2 j hj)) hA
  exact ⟨a, t, vk_R.of (hts _ hr) q1, ⟨cA, q3, q5, by rw [q6]; exact q2, hA a (Array.getElem?_eq_some_iff.mp q3).1⟩, vk_OFof q1 (va_eqt hs.2.1) hA, vk_OFof q1 ht hA, hT, hZ1, hZ2⟩
theorem lc_Xs {s : State} {args : Array Value} (hts : ∀ w ∈ lw_tbl, w.before args s = true) (hnw : narrow_1.before args s = true) : ∃ (sa : Nat → Nat) (sv : Nat), gz_X sa sv (fun q : Nat => s.heap.size ≤ q) s s.heap := by
  have hA : ∀ a : Nat, a < s.heap.size → ¬ (fun q : Nat => s.heap.size ≤ q) a := fun a h => Nat.not_le.mpr h
  obtain ⟨sa, hsa⟩ := lc_pick (P := fun (x : Nat × String) q => vk_R RX12 x.1 x.2 q s) (key := fun x => x.1) px_strs px8 (fun x hx => by
    obtain ⟨a, c, cA, kA, q1, -⟩ := Cond.exactly_spec (args := args) (first := s) (o := none) (s := s) (idx := []) (t := .string RX12 x.1) (cls := "java/lang/String") (px1 hnw x hx)
    exact ⟨a, vk_R.of (hts _ (px2 x hx)) q1⟩)
  obtain ⟨q, v, h1, h2⟩ := lc_one hts hnw (by decide) (lc_s24 hnw) gs9sx
  have e : (fun i => if i = 5000 then q else sa i) 5000 = q := if_pos rfl
  refine ⟨fun i => if i = 5000 then q else sa i, v, ⟨fun x hx => ?_, ⟨va_Nw.of rfl (hts _ gs9t68), va_Nw.of rfl (hts _ gs9t69), va_Nw.of rfl (hts _ gs9t71), va_Nw.of rfl (hts _ gs9t72), va_Nw.of rfl (hts _ gs9t73)⟩, vx_Zqof (hts _ gs9t61) (hts _ gs9t65) (pf0 hnw) hA, vx_Zqof (hts _ gs9t62) (hts _ gs9t65) (pf1 hnw) hA⟩, ?_, ?_, va_Nw.of rfl (hts _ gs9t70)⟩
  · show vk_R RX12 x.1 x.2 (if x.1 = 5000 then q else sa x.1) s
    rw [if_neg (px9 x hx)]
    exact hsa x hx
  · exact h2
  · exact h1
theorem lc_Zs {s : State} {args : Array Value} (hts : ∀ w ∈ lw_tbl, w.before args s = true) (hnw : narrow_1.before args s = true) : ∃ qa va : Nat → Nat, gd_X qa va (fun q : Nat => s.heap.size ≤ q) s s.heap := by
  obtain ⟨qa, hqa⟩ := lc_pick (P := fun (x : Nat × String) q => vk_R RX13 x.1 x.2 q s ∧ ∃ v, py_S q v (gd_ln x.1) (gd_bt x.1) (fun q : Nat => s.heap.size ≤ q) s s.heap) (key := fun x => x.1) gd_strs ps8 (fun x hx => by
    obtain ⟨q, v, h1, h2⟩ := lc_one hts hnw (ps7 x hx) (lc_ss hnw x hx) (ps6 x hx)
    exact ⟨q, h1, v, h2⟩)
  obtain ⟨va, hva⟩ := lc_pick (P := fun (x : Nat × String) v => py_S (qa x.1) v (gd_ln x.1) (gd_bt x.1) (fun q : Nat => s.heap.size ≤ q) s s.heap) (key := fun x => x.1) gd_strs ps8 (fun x hx => (hqa x hx).2)
  exact ⟨qa, va, fun x hx => ⟨(hqa x hx).1, hva x hx⟩⟩
