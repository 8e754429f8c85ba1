/-! THE LAW'S LOOP. -/
theorem gp_mono {n a s : Nat} {sh : gz_Sh} {ro : Nat → Nat} {I : gr_I} {J : gr_J} {A : gc_A} {Ir : gr_I} {Jr : gr_J} (h : gp_P n a s sh ro I J A Ir Jr) : gp_P (n + 1) a s sh ro I J A Ir Jr := by
  obtain ⟨⟨k1, k2, k3, k4, k5, k6, k7⟩, ⟨⟨q1, q2, q3, q4, q5, q6, q7⟩, h3⟩, h4⟩ := h
  exact ⟨⟨k1, k2, by omega, by omega, by omega, by omega, by omega⟩, ⟨⟨q1, gr_LE_mo q2 (by omega), by omega, by omega, by omega, by omega, by omega⟩, h3⟩, h4⟩
set_option maxHeartbeats 2000000 in
theorem law_switch {p : Program} {l : Launch} {e : Env} {R : Room} {s : State} {m : MethodId} {below : List Frame} {meth : Method} {c : Code} {b N : Nat} {xs : Nat → Int32} {D : va_G} {cy : Nat → ClassId} {sa : Nat → Nat} {sv : Nat} {ws0 : List Cond} {tb : String → gz_T} {h0 m0 ou c0 s0 : Nat} {Q : State → Prop} {i n : Nat} (K : gl_A p l s m meth c b N xs D cy sa sv ws0 tb R c0 s0) (hn : n < 64) (hi : i + 6 ≤ N) (kk : gl_H p l e R s m below meth c b D cy sa h0 m0 ou c0 s0 Q i (n + 1) 1246) (j : Nat) (hj : j < 32) : ∀ (a s9 : Nat) (sh : gz_Sh) (ro : Nat → Nat) (I : gr_I) (J : gr_J) (A : gc_A) (Ir : gr_I) (Jr : gr_J) (Lc Lr : List Nat) (g : Nat → Int64) (H : Heap) (locs : List Loc) (ls : Array Slot) (cells slots : Nat), gp_P n a s9 sh ro I J A Ir Jr → (Lc.length = sh.length ∧ Lr.length = (gr_sh ++ []).length ∧ gz_al sa Lc 0 = h0 ∧ gz_al sa Lr 0 = m0) → gp_W D (fun q => s.heap.size ≤ q) s.heap (gl_w cy sa ou g Lc sh (gc_h sh I J A) Lr (gr_h Ir Jr)) H locs → lv_has ls 8 [(4, .int (Int32.ofInt (i : Int))), (3, .ref ou), (2, .ref m0), (1, .ref h0), (0, .ref b)] → cells ≤ c0 + a → slots ≤ s0 + s9 → W p l e R s m #[Value.ref b] below meth c H locs cells slots Q (F0 m 40 ls [.int (nI j)]) := by
  intro a s9 sh ro I J A Ir Jr Lc Lr g H locs ls cells slots hP hLL hw hl hce hsl
  obtain ⟨⟨hx, hb, hml, hown, hpp⟩, ⟨hScr, hN, hbl⟩, hG, hX, hK, hWd, hR1, hR2, hR3, hR4⟩ := id K
  have hbA : ¬ (fun q : Nat => s.heap.size ≤ q) b := Nat.not_le.mpr hbl
  match j, hj with
  | 0, _ =>
    refine lv_tableIn (tgt := 176) hx hb dL_sw (by decide) (by decide) rfl (by decide) ?_
    exact law_feed K hn hi kk a s9 sh ro I J A Ir Jr Lc Lr g H locs ls cells slots hP hLL hw hl hce hsl
  | 1, _ =>
    refine lv_tableIn (tgt := 252) hx hb dL_sw (by decide) (by decide) rfl (by decide) ?_
    exact law_end K hn hi kk a s9 sh ro I J A Ir Jr Lc Lr g H locs ls cells slots hP hLL hw hl hce hsl
  | 2, _ =>
    refine lv_tableIn (tgt := 280) hx hb dL_sw (by decide) (by decide) rfl (by decide) ?_
    exact law_module K hn hi kk a s9 sh ro I J A Ir Jr Lc Lr g H locs ls cells slots hP hLL hw hl hce hsl
  | 3, _ =>
    refine lv_tableIn (tgt := 293) hx hb dL_sw (by decide) (by decide) rfl (by decide) ?_
    exact law_rule K hn hi kk a s9 sh ro I J A Ir Jr Lc Lr g H locs ls cells slots hP hLL hw hl hce hsl
  | 4, _ =>
    refine lv_tableIn (tgt := 306) hx hb dL_sw (by decide) (by decide) rfl (by decide) ?_
    exact law_out K hn hi kk a s9 sh ro I J A Ir Jr Lc Lr g H locs ls cells slots hP hLL hw hl hce hsl
  | 5, _ =>
    refine lv_tableIn (tgt := 331) hx hb dL_sw (by decide) (by decide) rfl (by decide) ?_
    exact law_number K hn hi kk a s9 sh ro I J A Ir Jr Lc Lr g H locs ls cells slots hP hLL hw hl hce hsl
  | 6, _ =>
    refine lv_tableIn (tgt := 371) hx hb dL_sw (by decide) (by decide) rfl (by decide) ?_
    exact law_sounds K hn hi kk a s9 sh ro I J A Ir Jr Lc Lr g H locs ls cells slots hP hLL hw hl hce hsl
  | 7, _ =>
    refine lv_tableIn (tgt := 399) hx hb dL_sw (by decide) (by decide) rfl (by decide) ?_
    exact law_analyse K hn hi kk a s9 sh ro I J A Ir Jr Lc Lr g H locs ls cells slots hP hLL hw hl hce hsl
  | 8, _ =>
    refine lv_tableIn (tgt := 455) hx hb dL_sw (by decide) (by decide) rfl (by decide) ?_
    exact law_analysis K hn hi kk a s9 sh ro I J A Ir Jr Lc Lr g H locs ls cells slots hP hLL hw hl hce hsl
  | 9, _ =>
    refine lv_tableIn (tgt := 495) hx hb dL_sw (by decide) (by decide) rfl (by decide) ?_
    exact law_cell K hn hi kk a s9 sh ro I J A Ir Jr Lc Lr g H locs ls cells slots hP hLL hw hl hce hsl
  | 10, _ =>
    refine lv_tableIn (tgt := 547) hx hb dL_sw (by decide) (by decide) rfl (by decide) ?_
    exact law_guess K hn hi kk a s9 sh ro I J A Ir Jr Lc Lr g H locs ls cells slots hP hLL hw hl hce hsl
  | 11, _ =>
    refine lv_tableIn (tgt := 575) hx hb dL_sw (by decide) (by decide) rfl (by decide) ?_
    exact law_guessed K hn hi kk a s9 sh ro I J A Ir Jr Lc Lr g H locs ls cells slots hP hLL hw hl hce hsl
  | 12, _ =>
    refine lv_tableIn (tgt := 615) hx hb dL_sw (by decide) (by decide) rfl (by decide) ?_
    exact law_parse K hn hi kk a s9 sh ro I J A Ir Jr Lc Lr g H locs ls cells slots hP hLL hw hl hce hsl
  | 13, _ =>
    refine lv_tableIn (tgt := 655) hx hb dL_sw (by decide) (by decide) rfl (by decide) ?_
    exact law_trees K hn hi kk a s9 sh ro I J A Ir Jr Lc Lr g H locs ls cells slots hP hLL hw hl hce hsl
  | 14, _ =>
    refine lv_tableIn (tgt := 668) hx hb dL_sw (by decide) (by decide) rfl (by decide) ?_
    exact law_bar K hn hi kk a s9 sh ro I J A Ir Jr Lc Lr g H locs ls cells slots hP hLL hw hl hce hsl
  | 15, _ =>
    refine lv_tableIn (tgt := 724) hx hb dL_sw (by decide) (by decide) rfl (by decide) ?_
    exact law_price K hn hi kk a s9 sh ro I J A Ir Jr Lc Lr g H locs ls cells slots hP hLL hw hl hce hsl
  | 16, _ =>
    refine lv_tableIn (tgt := 749) hx hb dL_sw (by decide) (by decide) rfl (by decide) ?_
    exact law_reading K hn hi kk a s9 sh ro I J A Ir Jr Lc Lr g H locs ls cells slots hP hLL hw hl hce hsl
  | 17, _ =>
    refine lv_tableIn (tgt := 789) hx hb dL_sw (by decide) (by decide) rfl (by decide) ?_
    exact law_tree K hn hi kk a s9 sh ro I J A Ir Jr Lc Lr g H locs ls cells slots hP hLL hw hl hce hsl
  | 18, _ =>
    refine lv_tableIn (tgt := 817) hx hb dL_sw (by decide) (by decide) rfl (by decide) ?_
    exact law_show K hn hi kk a s9 sh ro I J A Ir Jr Lc Lr g H locs ls cells slots hP hLL hw hl hce hsl
  | 19, _ =>
    refine lv_tableIn (tgt := 845) hx hb dL_sw (by decide) (by decide) rfl (by decide) ?_
    exact law_same K hn hi kk a s9 sh ro I J A Ir Jr Lc Lr g H locs ls cells slots hP hLL hw hl hce hsl
  | 20, _ =>
    refine lv_tableIn (tgt := 885) hx hb dL_sw (by decide) (by decide) rfl (by decide) ?_
    exact law_say K hn hi kk a s9 sh ro I J A Ir Jr Lc Lr g H locs ls cells slots hP hLL hw hl hce hsl
  | 21, _ =>
    refine lv_tableIn (tgt := 937) hx hb dL_sw (by decide) (by decide) rfl (by decide) ?_
    exact law_mean K hn hi kk a s9 sh ro I J A Ir Jr Lc Lr g H locs ls cells slots hP hLL hw hl hce hsl
  | 22, _ =>
    refine lv_tableIn (tgt := 965) hx hb dL_sw (by decide) (by decide) rfl (by decide) ?_
    exact law_truth K hn hi kk a s9 sh ro I J A Ir Jr Lc Lr g H locs ls cells slots hP hLL hw hl hce hsl
  | 23, _ =>
    refine lv_tableIn (tgt := 993) hx hb dL_sw (by decide) (by decide) rfl (by decide) ?_
    exact law_swap K hn hi kk a s9 sh ro I J A Ir Jr Lc Lr g H locs ls cells slots hP hLL hw hl hce hsl
  | 24, _ =>
    refine lv_tableIn (tgt := 1045) hx hb dL_sw (by decide) (by decide) rfl (by decide) ?_
    exact law_candidate K hn hi kk a s9 sh ro I J A Ir Jr Lc Lr g H locs ls cells slots hP hLL hw hl hce hsl
  | 25, _ =>
    refine lv_tableIn (tgt := 1070) hx hb dL_sw (by decide) (by decide) rfl (by decide) ?_
    exact law_add K hn hi kk a s9 sh ro I J A Ir Jr Lc Lr g H locs ls cells slots hP hLL hw hl hce hsl
  | 26, _ =>
    refine lv_tableIn (tgt := 1098) hx hb dL_sw (by decide) (by decide) rfl (by decide) ?_
    exact law_ask K hn hi kk a s9 sh ro I J A Ir Jr Lc Lr g H locs ls cells slots hP hLL hw hl hce hsl
  | 27, _ =>
    refine lv_tableIn (tgt := 1126) hx hb dL_sw (by decide) (by decide) rfl (by decide) ?_
    exact law_hit K hn hi kk a s9 sh ro I J A Ir Jr Lc Lr g H locs ls cells slots hP hLL hw hl hce hsl
  | 28, _ =>
    refine lv_tableIn (tgt := 1166) hx hb dL_sw (by decide) (by decide) rfl (by decide) ?_
    exact law_mend K hn hi kk a s9 sh ro I J A Ir Jr Lc Lr g H locs ls cells slots hP hLL hw hl hce hsl
  | 29, _ =>
    refine lv_tableIn (tgt := 1206) hx hb dL_sw (by decide) (by decide) rfl (by decide) ?_
    exact law_count K hn hi kk a s9 sh ro I J A Ir Jr Lc Lr g H locs ls cells slots hP hLL hw hl hce hsl
  | 30, _ =>
    refine lv_tableOut (tgt := 1246) hx hb dL_sw (by decide) (by decide) ?_
    exact kk a s9 sh ro I J A Ir Jr Lc Lr g H locs ls cells slots (gp_mono hP) hLL hw hl hce hsl
  | 31, _ =>
    refine lv_tableOut (tgt := 1246) hx hb dL_sw (by decide) (by decide) ?_
    exact kk a s9 sh ro I J A Ir Jr Lc Lr g H locs ls cells slots (gp_mono hP) hLL hw hl hce hsl
  | k + 32, h => exact absurd h (by omega)
theorem law_step {p : Program} {l : Launch} {e : Env} {R : Room} {s : State} {m : MethodId} {below : List Frame} {meth : Method} {c : Code} {b N : Nat} {xs : Nat → Int32} {D : va_G} {cy : Nat → ClassId} {sa : Nat → Nat} {sv : Nat} {ws0 : List Cond} {tb : String → gz_T} {h0 m0 ou c0 s0 : Nat} {Q : State → Prop} {i n : Nat} (K : gl_A p l s m meth c b N xs D cy sa sv ws0 tb R c0 s0) (hn : n < 64) (hi : i + 6 ≤ N) (kk : gl_H p l e R s m below meth c b D cy sa h0 m0 ou c0 s0 Q i (n + 1) 1246) : gl_H p l e R s m below meth c b D cy sa h0 m0 ou c0 s0 Q i n 33 := by
  intro a s9 sh ro I J A Ir Jr Lc Lr g H locs ls cells slots hP hLL hw hl hce hsl
  obtain ⟨⟨hx, hb, hml, hown, hpp⟩, ⟨hScr, hN, hbl⟩, hG, hX, hK, hWd, hR1, hR2, hR3, hR4⟩ := id K
  have hbA : ¬ (fun q : Nat => s.heap.size ≤ q) b := Nat.not_le.mpr hbl
  refine lv_aload_n hx hb (gx_d (gq_ok oL_law0 33 (.aload_n 0) rfl) rfl rfl) rfl (lv_at hl 4 rfl) ?_
  refine lv_iload hx hb (gx_d (gq_ok oL_law0 34 (.iload 4) rfl) rfl rfl) (lv_at hl 0 rfl) ?_
  have hr : (Int32.ofInt (i : Int)).toInt = (i : Int) := Int32.toInt_ofInt_of_le (by omega) (by omega)
  refine va_sld hx hb hScr hbl hbA hw.2.2.1 (vp_in_iff.mpr ⟨by rw [hr]; omega, by rw [hr]; omega⟩) (gx_d (gq_ok oL_law0 36 (.iaload) rfl) rfl rfl) ?_
  refine lv_bipush (v := 31) hx hb (gx_d (gq_ok oL_law0 37 (.bipush 31) rfl) rfl rfl) (by decide) ?_
  refine lv_iand hx hb (gx_d (gq_ok oL_law0 39 (.iand) rfl) rfl rfl) ?_
  obtain ⟨j, hj, hxj⟩ := pk_andE (xs (Int32.ofInt (i : Int)).toNatClampNeg) (m := 31) 5 (by decide)
  refine pq_topi hxj ?_
  exact law_switch K hn hi kk j hj a s9 sh ro I J A Ir Jr Lc Lr g H locs ls cells slots hP hLL hw hl hce hsl
theorem law_back {p : Program} {l : Launch} {e : Env} {R : Room} {s : State} {m : MethodId} {below : List Frame} {meth : Method} {c : Code} {b N : Nat} {xs : Nat → Int32} {D : va_G} {cy : Nat → ClassId} {sa : Nat → Nat} {sv : Nat} {ws0 : List Cond} {tb : String → gz_T} {h0 m0 ou c0 s0 : Nat} {Q : State → Prop} {i n : Nat} (K : gl_A p l s m meth c b N xs D cy sa sv ws0 tb R c0 s0) (kk : gl_H p l e R s m below meth c b D cy sa h0 m0 ou c0 s0 Q (i + 6) n 23) : gl_H p l e R s m below meth c b D cy sa h0 m0 ou c0 s0 Q i n 1246 := by
  intro a s9 sh ro I J A Ir Jr Lc Lr g H locs ls cells slots hP hLL hw hl hce hsl
  obtain ⟨⟨hx, hb, hml, hown, hpp⟩, ⟨hScr, hN, hbl⟩, hG, hX, hK, hWd, hR1, hR2, hR3, hR4⟩ := id K
  have hbA : ¬ (fun q : Nat => s.heap.size ≤ q) b := Nat.not_le.mpr hbl
  refine lv_iinc (v := Int32.ofInt ((i + 6 : Nat) : Int)) (lv' := [(4, .int (Int32.ofInt ((i + 6 : Nat) : Int))), (3, .ref ou), (2, .ref m0), (1, .ref h0), (0, .ref b)]) hx hb (gx_d (gq_ok oL_law12 1246 (.iinc 4 6) rfl) rfl rfl) hl (k := 0) rfl (Int32.ofInt_add (i : Int) 6).symm (by decide) rfl (fun ls hl => ?_)
  refine lv_goto (tgt := 23) hx hb (gx_d (gq_ok oL_law12 1249 (.goto (-1226)) rfl) rfl rfl) (by decide) ?_
  exact kk a s9 sh ro I J A Ir Jr Lc Lr g H locs ls cells slots hP hLL hw hl hce hsl
theorem law_head {p : Program} {l : Launch} {e : Env} {R : Room} {s : State} {m : MethodId} {below : List Frame} {meth : Method} {c : Code} {b N : Nat} {xs : Nat → Int32} {D : va_G} {cy : Nat → ClassId} {sa : Nat → Nat} {sv : Nat} {ws0 : List Cond} {tb : String → gz_T} {h0 m0 ou c0 s0 : Nat} {Q : State → Prop} {i n : Nat} (K : gl_A p l s m meth c b N xs D cy sa sv ws0 tb R c0 s0) (hn : n ≤ 64) (hi : i ≤ 400) (hend : ∀ (H : Heap) (locs : List Loc) (ls : Array Slot) (cells slots : Nat), (∀ q ∈ locs, s.heap.size ≤ q.base) → cells ≤ c0 + 12000 → slots ≤ s0 + 480000 → W p l e R s m #[Value.ref b] below meth c H locs cells slots Q (F0 m 1252 ls [])) (kk : i + 6 ≤ N → gl_H p l e R s m below meth c b D cy sa h0 m0 ou c0 s0 Q i n 33) : gl_H p l e R s m below meth c b D cy sa h0 m0 ou c0 s0 Q i n 23 := by
  intro a s9 sh ro I J A Ir Jr Lc Lr g H locs ls cells slots hP hLL hw hl hce hsl
  obtain ⟨⟨hx, hb, hml, hown, hpp⟩, ⟨hScr, hN, hbl⟩, hG, hX, hK, hWd, hR1, hR2, hR3, hR4⟩ := id K
  have hbA : ¬ (fun q : Nat => s.heap.size ≤ q) b := Nat.not_le.mpr hbl
  have hbd := gp_bd hP
  refine lv_iload hx hb (gx_d (gq_ok oL_law0 23 (.iload 4) rfl) rfl rfl) (lv_at hl 0 rfl) ?_
  refine lv_aload_n hx hb (gx_d (gq_ok oL_law0 25 (.aload_n 0) rfl) rfl rfl) rfl (lv_at hl 4 rfl) ?_
  refine va_slen hx hb hScr hbl hbA hw.2.2.1 (gx_d (gq_ok oL_law0 26 (.arraylength) rfl) rfl rfl) ?_
  refine lv_bipush (v := 6) hx hb (gx_d (gq_ok oL_law0 27 (.bipush 6) rfl) rfl rfl) (by decide) ?_
  refine lv_isub hx hb (gx_d (gq_ok oL_law0 29 (.isub) rfl) rfl rfl) ?_
  have e6 : Int32.ofNat N - 6 = Int32.ofInt ((N : Int) - 6) := by
    rw [Int32.ofInt_sub, Int32.ofInt_eq_ofNat]
    rfl
  refine pq_topi e6 ?_
  have hlt := gz_ltI (a := (N : Int) - 6) (b := (i : Int)) ⟨by omega, by omega⟩ ⟨by omega, by omega⟩
  refine lv_icmp_gt (tgt := 1252) hx hb (gx_d (gq_ok oL_law0 30 (.if_icmp .gt 1222) rfl) rfl rfl) (by decide) (fun _ => ?_) (fun c9 => ?_)
  · exact hend H locs ls cells slots (fun q hq => hw.2.2.1.2.2 q hq) (by omega) (by omega)
  · have c8 : ¬ ((N : Int) - 6 < (i : Int)) := fun h => c9 (hlt.mpr h)
    exact kk (by omega) a s9 sh ro I J A Ir Jr Lc Lr g H locs ls cells slots hP hLL hw hl hce hsl
set_option maxHeartbeats 8000000 in
theorem law_loop {p : Program} {l : Launch} {e : Env} {R : Room} {s : State} {m : MethodId} {below : List Frame} {meth : Method} {c : Code} {b N : Nat} {xs : Nat → Int32} {D : va_G} {cy : Nat → ClassId} {sa : Nat → Nat} {sv : Nat} {ws0 : List Cond} {tb : String → gz_T} {h0 m0 ou c0 s0 : Nat} {Q : State → Prop} (K : gl_A p l s m meth c b N xs D cy sa sv ws0 tb R c0 s0) (hend : ∀ (H : Heap) (locs : List Loc) (ls : Array Slot) (cells slots : Nat), (∀ q ∈ locs, s.heap.size ≤ q.base) → cells ≤ c0 + 12000 → slots ≤ s0 + 480000 → W p l e R s m #[Value.ref b] below meth c H locs cells slots Q (F0 m 1252 ls [])) : ∀ k n : Nat, n + k = 64 → gl_H p l e R s m below meth c b D cy sa h0 m0 ou c0 s0 Q (6 * n) n 23
  | 0, n, h => law_head K (by exact gz_m 0 (by omega)) (by exact gz_m 1 (by omega)) hend (fun h9 => absurd h9 (by have := K.2.1.2.1; exact gz_m 2 (by omega)))
  | k + 1, n, h => law_head K (by exact gz_m 3 (by omega)) (by exact gz_m 4 (by omega)) hend (fun h9 => law_step K (by exact gz_m 5 (by omega)) h9 (law_back K (law_loop K hend k (n + 1) (by exact gz_m 6 (by omega)))))
