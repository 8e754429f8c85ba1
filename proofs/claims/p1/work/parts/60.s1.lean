theorem pt1 : Cond.instantiable RX0 22 ∈ lw_tbl := pk_t2 _ (List.mem_of_getElem? (i := 59) rfl)
theorem pt2 : Cond.instantiable RX1 19 ∈ lw_tbl := pk_t3 _ (List.mem_of_getElem? (i := 84) rfl)
theorem pt3 : Cond.instantiable RX2 10 ∈ lw_tbl := pk_t4 _ (List.mem_of_getElem? (i := 60) rfl)
theorem pt4 : Cond.instantiable RX3 16 ∈ lw_tbl := pk_t5 _ (List.mem_of_getElem? (i := 107) rfl)
theorem pt5 : Cond.instantiable RX4 2 ∈ lw_tbl := pk_t1 _ (List.mem_of_getElem? (i := 43) rfl)
theorem pt6 : Cond.instantiable RX5 19 ∈ lw_tbl := pk_t2 _ (List.mem_of_getElem? (i := 145) rfl)
theorem pt7 : Cond.instantiable RX6 19 ∈ lw_tbl := pk_t1 _ (List.mem_of_getElem? (i := 233) rfl)
theorem pt8 : Cond.instantiable RX7 14 ∈ lw_tbl := pk_t2 _ (List.mem_of_getElem? (i := 211) rfl)
theorem pt9 : Cond.instantiable RX8 21 ∈ lw_tbl := pk_t1 _ (List.mem_of_getElem? (i := 37) rfl)
theorem pt10 : Cond.instantiable RX9 10 ∈ lw_tbl := pk_t1 _ (List.mem_of_getElem? (i := 171) rfl)
theorem pt11 : Cond.instantiable RX10 19 ∈ lw_tbl := pk_t3 _ (List.mem_of_getElem? (i := 20) rfl)
theorem pt12 : Cond.instantiable RX11 16 ∈ lw_tbl := pk_t4 _ (List.mem_of_getElem? (i := 50) rfl)
theorem pt13 : Cond.instantiable RX12 17 ∈ lw_tbl := pk_t1 _ (List.mem_of_getElem? (i := 29) rfl)
theorem pt14 : Cond.instantiable RX13 229 ∈ lw_tbl := pk_t9 _ (List.mem_of_getElem? (i := 84) rfl)
theorem pt15 : Cond.arrayClass .byte ∈ lw_tbl := pk_t1 _ (List.mem_of_getElem? (i := 169) rfl)
theorem pt16 : Cond.arrayClass .int ∈ lw_tbl := pk_t1 _ (List.mem_of_getElem? (i := 168) rfl)
theorem pt17 : Cond.arrayClass .long ∈ lw_tbl := pk_t1 _ (List.mem_of_getElem? (i := 63) rfl)
theorem pt18 : Cond.arrayClass .boolean ∈ lw_tbl := pk_t2 _ (List.mem_of_getElem? (i := 209) rfl)
theorem pt19 : Cond.arrayOver (.object RX3) ∈ lw_tbl := pk_t4 _ (List.mem_of_getElem? (i := 58) rfl)
theorem pt20 : Cond.arrayOver (.object RX11) ∈ lw_tbl := pk_t1 _ (List.mem_of_getElem? (i := 65) rfl)
theorem pt21 : Cond.arrayOver (.array .byte) ∈ lw_tbl := pk_t3 _ (List.mem_of_getElem? (i := 90) rfl)
theorem pt22 : Cond.arrayOver (.array .int) ∈ lw_tbl := pk_t3 _ (List.mem_of_getElem? (i := 153) rfl)
theorem pt23 : Cond.methodLinkNest RX12 11 yX8_init RX12 ∈ lw_tbl := pk_t1 _ (List.mem_of_getElem? (i := 38) rfl)
theorem pt24 : Cond.methodLinkNest RX12 18 yX9_init RX12 ∈ lw_tbl := pk_t1 _ (List.mem_of_getElem? (i := 172) rfl)
theorem pt25 : Cond.methodLinkNest RX1 32 yX9_init RX12 ∈ lw_tbl := pk_t3 _ (List.mem_of_getElem? (i := 92) rfl)
theorem pt26 : Cond.methodLinkNest RX6 361 yX3_init RX12 ∈ lw_tbl := pk_t5 _ (List.mem_of_getElem? (i := 108) rfl)
set_option maxHeartbeats 4000000 in
theorem lc_G {s : State} {args : Array Value} (hts : ∀ w ∈ lw_tbl, w.before args s = true) : ∃ (D : va_G) (cy : Nat → ClassId), pw_G D cy s := by
  obtain ⟨c0, i0, k0⟩ := u_known (C := RX0) (T := TX0) (N := 22) (n := 22) hts (fun w h => (pl_u0 w h).1) (hts _ pt1)
  obtain ⟨c1, i1, k1⟩ := u_known (C := RX1) (T := TX1) (N := 19) (n := 19) hts (fun w h => (pl_u1 w h).1) (hts _ pt2)
  obtain ⟨c2, i2, k2⟩ := u_known (C := RX2) (T := TX2) (N := 10) (n := 10) hts (fun w h => (pl_u2 w h).1) (hts _ pt3)
  obtain ⟨c3, i3, k3⟩ := u_known (C := RX3) (T := TX3) (N := 16) (n := 16) hts (fun w h => (pl_u3 w h).1) (hts _ pt4)
  obtain ⟨c4, i4, k4⟩ := u_known (C := RX4) (T := TX4) (N := 2) (n := 2) hts (fun w h => (pl_u4 w h).1) (hts _ pt5)
  obtain ⟨c5, i5, k5⟩ := u_known (C := RX5) (T := TX5) (N := 19) (n := 19) hts (fun w h => (pl_u5 w h).1) (hts _ pt6)
  obtain ⟨c6, i6, k6⟩ := u_known (C := RX6) (T := TX6) (N := 19) (n := 19) hts (fun w h => (pl_u6 w h).1) (hts _ pt7)
  obtain ⟨c7, i7, k7⟩ := u_known (C := RX7) (T := TX7) (N := 14) (n := 14) hts (fun w h => (pl_u7 w h).1) (hts _ pt8)
  obtain ⟨c8, i8, k8⟩ := u_known (C := RX8) (T := TX8) (N := 21) (n := 21) hts (fun w h => (pl_u8 w h).1) (hts _ pt9)
  obtain ⟨c9, i9, k9⟩ := u_known (C := RX9) (T := TX9) (N := 10) (n := 10) hts (fun w h => (pl_u9 w h).1) (hts _ pt10)
  obtain ⟨c10, i10, k10⟩ := u_known (C := RX10) (T := TX10) (N := 19) (n := 19) hts (fun w h => (pl_u10 w h).1) (hts _ pt11)
  obtain ⟨c11, i11, k11⟩ := u_known (C := RX11) (T := TX11) (N := 16) (n := 16) hts (fun w h => (pl_u11 w h).1) (hts _ pt12)
  obtain ⟨c12, i12, k12⟩ := u_known (C := RX12) (T := TX12) (N := 17) (n := 17) hts (fun w h => (pl_u12 w h).1) (hts _ pt13)
  obtain ⟨c13, i13, k13⟩ := u_known (C := RX13) (T := TX13) (N := 229) (n := 229) hts (fun w h => (pl_u13 w h).1) (hts _ pt14)
  obtain ⟨a0, ka0, co0, fa0, ga0, ha0⟩ := Cond.arrayClass_spec (hts _ pt15)
  obtain ⟨a1, ka1, co1, fa1, ga1, ha1⟩ := Cond.arrayClass_spec (hts _ pt16)
  obtain ⟨a2, ka2, co2, fa2, ga2, ha2⟩ := Cond.arrayClass_spec (hts _ pt17)
  obtain ⟨a3, ka3, co3, fa3, ga3, ha3⟩ := Cond.arrayClass_spec (hts _ pt18)
  obtain ⟨co4, a4, ka4, fc4, -, ga4, ha4, fa4⟩ := Cond.arrayOver_spec (hts _ pt19)
  obtain ⟨co5, a5, ka5, fc5, -, ga5, ha5, fa5⟩ := Cond.arrayOver_spec (hts _ pt20)
  obtain ⟨co6, a6, ka6, fc6, -, ga6, ha6, fa6⟩ := arrayOverA_spec (hts _ pt21)
  obtain ⟨co7, a7, ka7, fc7, -, ga7, ha7, fa7⟩ := arrayOverA_spec (hts _ pt22)
  refine ⟨(fun k => [c0, c1, c2, c3, c4, c5, c6, c7, c8, c9, c10, c11, c12, c13].getD k 0, fun k => [i0, i1, i2, i3, i4, i5, i6, i7, i8, i9, i10, i11, i12, i13].getD k (fun _ => 0)), fun k => [a0, a1, a2, a3, a4, a5, a6, a7].getD k 0, ⟨?_, ?_⟩, ⟨va_Nw.of rfl (hts _ pt23), va_Nw.of rfl (hts _ pt24), va_Nw.of rfl (hts _ pt25), va_Nw.of rfl (hts _ pt26)⟩, va_AO.of (hts _ pt19), va_AO.of (hts _ pt20), hts _ pt21, hts _ pt22⟩
  · intro k q hq
    match k, hq with
    | 0, hq => cases hq; exact k0
    | 1, hq => cases hq; exact k1
    | 2, hq => cases hq; exact k2
    | 3, hq => cases hq; exact k3
    | 4, hq => cases hq; exact k4
    | 5, hq => cases hq; exact k5
    | 6, hq => cases hq; exact k6
    | 7, hq => cases hq; exact k7
    | 8, hq => cases hq; exact k8
    | 9, hq => cases hq; exact k9
    | 10, hq => cases hq; exact k10
    | 11, hq => cases hq; exact k11
    | 12, hq => cases hq; exact k12
    | 13, hq => cases hq; exact k13
    | k + 14, hq => simp [vwCl] at hq
  · intro k q hq
    match k, hq with
    | 0, hq => cases hq; exact ⟨fun n z => ⟨fun k h => (by cases h), ka0, ga0, co0, ha0⟩, fa0⟩
    | 1, hq => cases hq; exact ⟨fun n z => ⟨fun k h => (by cases h), ka1, ga1, co1, ha1⟩, fa1⟩
    | 2, hq => cases hq; exact ⟨fun n z => ⟨fun k h => (by cases h), ka2, ga2, co2, ha2⟩, fa2⟩
    | 3, hq => cases hq; exact ⟨fun n z => ⟨fun k h => (by cases h), ka3, ga3, co3, ha3⟩, fa3⟩
    | 4, hq => cases hq; exact ⟨fun n z => ⟨fun k h => (by cases h), ka4, ga4, co4, ha4⟩, ⟨ka4, co4, ga4, ha4, fc4, fa4⟩⟩
    | 5, hq => cases hq; exact ⟨fun n z => ⟨fun k h => (by cases h), ka5, ga5, co5, ha5⟩, ⟨ka5, co5, ga5, ha5, fc5, fa5⟩⟩
    | 6, hq => cases hq; exact ⟨fun n z => ⟨fun k h => (by cases h), ka6, ga6, co6, ha6⟩, fa6⟩
    | 7, hq => cases hq; exact ⟨fun n z => ⟨fun k h => (by cases h), ka7, ga7, co7, ha7⟩, fa7⟩
    | k + 8, hq => simp [pw_T] at hq
