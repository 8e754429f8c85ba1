/-! THE LAW'S CASES. -/
theorem gl_rs : 0 < (gr_sh ++ []).length := by decide +kernel
set_option maxHeartbeats 2000000 in
theorem law_feed {p : Program} {l : Launch} {e : Env} {R : Room} {s : State} {m : MethodId} {below : List Frame} {meth : Method} {c : Code} {b N : Nat} {xs : Nat → Int32} {D : va_G} {cy : Nat → ClassId} {sa : Nat → Nat} {sv : Nat} {ws0 : List Cond} {tb : String → gz_T} {h0 m0 ou c0 s0 : Nat} {Q : State → Prop} {i n : Nat} (K : gl_A p l s m meth c b N xs D cy sa sv ws0 tb R c0 s0) (hn : n < 64) (hi : i + 6 ≤ N) (kk : gl_H p l e R s m below meth c b D cy sa h0 m0 ou c0 s0 Q i (n + 1) 1246) : gl_H p l e R s m below meth c b D cy sa h0 m0 ou c0 s0 Q i n 176 := by
  intro a s9 sh ro I J A Ir Jr Lc Lr g H locs ls cells slots hP hLL hw hl hce hsl
  obtain ⟨hLc, hLr, rfl, rfl⟩ := hLL
  obtain ⟨⟨hx, hb, hml, hown, hpp⟩, ⟨hScr, hN, hbl⟩, hG, hX, hK, ⟨⟨hws, htb, hwr, htr, hwc, hwn⟩, hwl⟩, hR1, hR2, hR3, hR4⟩ := id K
  have hbA : ¬ (fun q : Nat => s.heap.size ≤ q) b := Nat.not_le.mpr hbl
  have hsh := gp_sh hP
  have hbd := gp_bd hP
  obtain ⟨zr, Ir', Jr', ER, hI', hz, ⟨I', J', E9, ht0, P9⟩ | ⟨T9, ht0, P9⟩⟩ := gp_feed hws htb hwr htr [] hP hn ((xs (i + 1)).toInt) ((xs (i + 2)).toInt) ((xs (i + 3)).toInt) ((xs (i + 4)).toInt) ((xs (i + 5)).toInt) (gl_rng _) (gl_rng _) (gl_rng _) (gl_rng _) (gl_rng _)
  · skip
    refine lv_aload_n hx hb (gx_d (gq_ok oL_law0 176 (.aload_n 1) rfl) rfl rfl) rfl (lv_at hl 3 rfl) ?_
    refine gl_arg (i := i) 1 hx hb hScr hbl hbA hw.2.2.1 (lv_at hl 4 rfl) (lv_at hl 0 rfl) (by omega) hN (gx_d (gq_ok oL_law0 177 (.aload_n 0) rfl) rfl rfl) (gx_d (gq_ok oL_law0 178 (.iload 4) rfl) rfl rfl) (gx_d (gq_ok oL_law0 180 (.iconst 1) rfl) rfl rfl) (gx_d (gq_ok oL_law0 181 (.iadd) rfl) rfl rfl) (gx_d (gq_ok oL_law0 182 (.iaload) rfl) rfl rfl) ?_
    refine gl_arg (i := i) 2 hx hb hScr hbl hbA hw.2.2.1 (lv_at hl 4 rfl) (lv_at hl 0 rfl) (by omega) hN (gx_d (gq_ok oL_law0 183 (.aload_n 0) rfl) rfl rfl) (gx_d (gq_ok oL_law0 184 (.iload 4) rfl) rfl rfl) (gx_d (gq_ok oL_law0 186 (.iconst 2) rfl) rfl rfl) (gx_d (gq_ok oL_law0 187 (.iadd) rfl) rfl rfl) (gx_d (gq_ok oL_law0 188 (.iaload) rfl) rfl rfl) ?_
    refine gl_arg (i := i) 3 hx hb hScr hbl hbA hw.2.2.1 (lv_at hl 4 rfl) (lv_at hl 0 rfl) (by omega) hN (gx_d (gq_ok oL_law0 189 (.aload_n 0) rfl) rfl rfl) (gx_d (gq_ok oL_law0 190 (.iload 4) rfl) rfl rfl) (gx_d (gq_ok oL_law0 192 (.iconst 3) rfl) rfl rfl) (gx_d (gq_ok oL_law0 193 (.iadd) rfl) rfl rfl) (gx_d (gq_ok oL_law0 194 (.iaload) rfl) rfl rfl) ?_
    refine gl_arg (i := i) 4 hx hb hScr hbl hbA hw.2.2.1 (lv_at hl 4 rfl) (lv_at hl 0 rfl) (by omega) hN (gx_d (gq_ok oL_law0 195 (.aload_n 0) rfl) rfl rfl) (gx_d (gq_ok oL_law0 196 (.iload 4) rfl) rfl rfl) (gx_d (gq_ok oL_law0 198 (.iconst 4) rfl) rfl rfl) (gx_d (gq_ok oL_law0 199 (.iadd) rfl) rfl rfl) (gx_d (gq_ok oL_law0 200 (.iaload) rfl) rfl rfl) ?_
    refine gl_arg (i := i) 5 hx hb hScr hbl hbA hw.2.2.1 (lv_at hl 4 rfl) (lv_at hl 0 rfl) (by omega) hN (gx_d (gq_ok oL_law0 201 (.aload_n 0) rfl) rfl rfl) (gx_d (gq_ok oL_law0 202 (.iload 4) rfl) rfl rfl) (gx_d (gq_ok oL_law0 204 (.iconst 5) rfl) rfl rfl) (gx_d (gq_ok oL_law0 205 (.iadd) rfl) rfl rfl) (gx_d (gq_ok oL_law0 206 (.iaload) rfl) rfl rfl) ?_
    refine lv_aload_n hx hb (gx_d (gq_ok oL_law0 207 (.aload_n 3) rfl) rfl rfl) rfl (lv_at hl 1 rfl) ?_
    refine gl_callW (d := 101) (av := [.ref (gz_al sa Lc 0), .int (Int32.ofInt (xs (i + 1)).toInt), .int (Int32.ofInt (xs (i + 2)).toInt), .int (Int32.ofInt (xs (i + 3)).toInt), .int (Int32.ofInt (xs (i + 4)).toInt), .int (Int32.ofInt (xs (i + 5)).toInt), .ref ou]) (rest := []) hK.1 hx hb hml hpp hown hG hX (show gl_lW ws0 95 yL_feed (Cond.codeWith yL_feed cL_feed 8 (some .int) [(0, 16, 19, 13)]) 7 from ⟨(hwl _ (List.mem_of_getElem? (i := 0) rfl)), (hwl _ (List.mem_of_getElem? (i := 1) rfl)), (hwl _ (List.mem_of_getElem? (i := 2) rfl)), (hwl _ (List.mem_of_getElem? (i := 3) rfl)), by decide +kernel⟩) (w_feed_n hK (show gx_lV ws0 RL 7 (yX12_feed, cX12_feed, 6, (some .int)) 5 from ⟨(hwl _ (List.mem_of_getElem? (i := 4) rfl)), (hwl _ (List.mem_of_getElem? (i := 5) rfl)), (hwl _ (List.mem_of_getElem? (i := 6) rfl)), (hwl _ (List.mem_of_getElem? (i := 7) rfl)), (hwl _ (List.mem_of_getElem? (i := 8) rfl)), by decide +kernel, Nat.le_of_ble_eq_true rfl⟩) ((xs (i + 1)).toInt) ((xs (i + 2)).toInt) ((xs (i + 3)).toInt) ((xs (i + 4)).toInt) ((xs (i + 5)).toInt) zr E9 hsh.1 H.size ou g Lc hLc) hl.1 ⟨by omega, by omega⟩ ⟨by omega, by omega⟩ (Nat.le_of_ble_eq_true rfl) hw (gx_d (gq_ok oL_law0 208 (.invokestatic 95) rfl) rfl rfl) (fun Lc' g' H1 locs1 hp hlen hg hw1 => ?_)
    have ha0 := gl_al0 (sa := sa) hp (by omega)
    refine lv_istore (lv' := [(5, .int 0), (4, .int (Int32.ofInt (i : Int))), (3, .ref ou), (2, .ref (gz_al sa Lr 0)), (1, .ref (gz_al sa Lc 0)), (0, .ref b)]) hx hb (gx_d (gq_ok oL_law0 211 (.istore 5) rfl) rfl rfl) hl (by decide) rfl (fun ls hl => ?_)
    have hw1 : gp_W D (fun q => s.heap.size ≤ q) s.heap (va_pl Lr (gz_f cy sa Lr (gr_sh ++ []) (gr_h Ir Jr)) ++ (gp_ou cy ou g' :: va_pl Lc' (gz_f cy sa Lc' sh (gc_h sh I' J' A)))) H1 locs1 := gp_W.comm (w1 := gp_ou cy ou g' :: va_pl Lc' _) hw1
    refine lv_aload_n hx hb (gx_d (gq_ok oL_law0 213 (.aload_n 2) rfl) rfl rfl) rfl (lv_at hl 3 rfl) ?_
    refine gl_arg (i := i) 1 hx hb hScr hbl hbA hw1.2.2.1 (lv_at hl 5 rfl) (lv_at hl 1 rfl) (by omega) hN (gx_d (gq_ok oL_law0 214 (.aload_n 0) rfl) rfl rfl) (gx_d (gq_ok oL_law0 215 (.iload 4) rfl) rfl rfl) (gx_d (gq_ok oL_law0 217 (.iconst 1) rfl) rfl rfl) (gx_d (gq_ok oL_law0 218 (.iadd) rfl) rfl rfl) (gx_d (gq_ok oL_law0 219 (.iaload) rfl) rfl rfl) ?_
    refine gl_arg (i := i) 2 hx hb hScr hbl hbA hw1.2.2.1 (lv_at hl 5 rfl) (lv_at hl 1 rfl) (by omega) hN (gx_d (gq_ok oL_law0 220 (.aload_n 0) rfl) rfl rfl) (gx_d (gq_ok oL_law1 221 (.iload 4) rfl) rfl rfl) (gx_d (gq_ok oL_law1 223 (.iconst 2) rfl) rfl rfl) (gx_d (gq_ok oL_law1 224 (.iadd) rfl) rfl rfl) (gx_d (gq_ok oL_law1 225 (.iaload) rfl) rfl rfl) ?_
    refine gl_arg (i := i) 3 hx hb hScr hbl hbA hw1.2.2.1 (lv_at hl 5 rfl) (lv_at hl 1 rfl) (by omega) hN (gx_d (gq_ok oL_law1 226 (.aload_n 0) rfl) rfl rfl) (gx_d (gq_ok oL_law1 227 (.iload 4) rfl) rfl rfl) (gx_d (gq_ok oL_law1 229 (.iconst 3) rfl) rfl rfl) (gx_d (gq_ok oL_law1 230 (.iadd) rfl) rfl rfl) (gx_d (gq_ok oL_law1 231 (.iaload) rfl) rfl rfl) ?_
    refine gl_arg (i := i) 4 hx hb hScr hbl hbA hw1.2.2.1 (lv_at hl 5 rfl) (lv_at hl 1 rfl) (by omega) hN (gx_d (gq_ok oL_law1 232 (.aload_n 0) rfl) rfl rfl) (gx_d (gq_ok oL_law1 233 (.iload 4) rfl) rfl rfl) (gx_d (gq_ok oL_law1 235 (.iconst 4) rfl) rfl rfl) (gx_d (gq_ok oL_law1 236 (.iadd) rfl) rfl rfl) (gx_d (gq_ok oL_law1 237 (.iaload) rfl) rfl rfl) ?_
    refine gl_arg (i := i) 5 hx hb hScr hbl hbA hw1.2.2.1 (lv_at hl 5 rfl) (lv_at hl 1 rfl) (by omega) hN (gx_d (gq_ok oL_law1 238 (.aload_n 0) rfl) rfl rfl) (gx_d (gq_ok oL_law1 239 (.iload 4) rfl) rfl rfl) (gx_d (gq_ok oL_law1 241 (.iconst 5) rfl) rfl rfl) (gx_d (gq_ok oL_law1 242 (.iadd) rfl) rfl rfl) (gx_d (gq_ok oL_law1 243 (.iaload) rfl) rfl rfl) ?_
    refine gl_callV (own := RL) (d := 1000) (As := [.inl ((xs (i + 1)).toInt), .inl ((xs (i + 2)).toInt), .inl ((xs (i + 3)).toInt), .inl ((xs (i + 4)).toInt), .inl ((xs (i + 5)).toInt)]) (rest := []) (ci := 13) hK hx hb hml hpp hown hG hX (show gx_lV ws0 RL 100 (yX13_feed, cX13_feed, 6, (some .int)) 5 from ⟨(hwl _ (List.mem_of_getElem? (i := 9) rfl)), (hwl _ (List.mem_of_getElem? (i := 10) rfl)), (hwl _ (List.mem_of_getElem? (i := 11) rfl)), (hwl _ (List.mem_of_getElem? (i := 12) rfl)), (hwl _ (List.mem_of_getElem? (i := 13) rfl)), by decide +kernel, Nat.le_of_ble_eq_true rfl⟩) rfl rfl ER hLr hl.1 ⟨by omega, by omega⟩ ⟨by omega, by omega⟩ (Nat.le_of_ble_eq_true rfl) hw1 (gx_d (gq_ok oL_law1 244 (.invokevirtual 100) rfl) rfl rfl) (fun Lr' H2 locs2 hp2 hlen2 hw2 => ?_)
    have ha2 := gl_al0 (sa := sa) hp2 (by rw [hLr]; exact gl_rs)
    show W _ _ _ _ _ _ _ _ _ _ _ _ _ _ _ (F0 m 247 ls [.int (Int32.ofInt zr)])
    refine lv_istore (lv' := [(6, .int (Int32.ofInt zr)), (5, .int 0), (4, .int (Int32.ofInt (i : Int))), (3, .ref ou), (2, .ref (gz_al sa Lr 0)), (1, .ref (gz_al sa Lc 0)), (0, .ref b)]) hx hb (gx_d (gq_ok oL_law1 247 (.istore 6) rfl) rfl rfl) hl (by decide) rfl (fun ls hl => ?_)
    refine lv_goto (tgt := 1246) hx hb (gx_d (gq_ok oL_law1 249 (.goto 997) rfl) rfl rfl) (by decide) ?_
    exact kk _ _ _ _ _ _ _ _ _ Lc' Lr' _ _ _ _ _ _ P9 ⟨hlen, hlen2, ha0, ha2⟩ (gp_W.comm hw2) (lv_sub hl [2, 3, 4, 5, 6] rfl) (by omega) (by omega)
  · skip
    refine lv_aload_n hx hb (gx_d (gq_ok oL_law0 176 (.aload_n 1) rfl) rfl rfl) rfl (lv_at hl 3 rfl) ?_
    refine gl_arg (i := i) 1 hx hb hScr hbl hbA hw.2.2.1 (lv_at hl 4 rfl) (lv_at hl 0 rfl) (by omega) hN (gx_d (gq_ok oL_law0 177 (.aload_n 0) rfl) rfl rfl) (gx_d (gq_ok oL_law0 178 (.iload 4) rfl) rfl rfl) (gx_d (gq_ok oL_law0 180 (.iconst 1) rfl) rfl rfl) (gx_d (gq_ok oL_law0 181 (.iadd) rfl) rfl rfl) (gx_d (gq_ok oL_law0 182 (.iaload) rfl) rfl rfl) ?_
    refine gl_arg (i := i) 2 hx hb hScr hbl hbA hw.2.2.1 (lv_at hl 4 rfl) (lv_at hl 0 rfl) (by omega) hN (gx_d (gq_ok oL_law0 183 (.aload_n 0) rfl) rfl rfl) (gx_d (gq_ok oL_law0 184 (.iload 4) rfl) rfl rfl) (gx_d (gq_ok oL_law0 186 (.iconst 2) rfl) rfl rfl) (gx_d (gq_ok oL_law0 187 (.iadd) rfl) rfl rfl) (gx_d (gq_ok oL_law0 188 (.iaload) rfl) rfl rfl) ?_
    refine gl_arg (i := i) 3 hx hb hScr hbl hbA hw.2.2.1 (lv_at hl 4 rfl) (lv_at hl 0 rfl) (by omega) hN (gx_d (gq_ok oL_law0 189 (.aload_n 0) rfl) rfl rfl) (gx_d (gq_ok oL_law0 190 (.iload 4) rfl) rfl rfl) (gx_d (gq_ok oL_law0 192 (.iconst 3) rfl) rfl rfl) (gx_d (gq_ok oL_law0 193 (.iadd) rfl) rfl rfl) (gx_d (gq_ok oL_law0 194 (.iaload) rfl) rfl rfl) ?_
    refine gl_arg (i := i) 4 hx hb hScr hbl hbA hw.2.2.1 (lv_at hl 4 rfl) (lv_at hl 0 rfl) (by omega) hN (gx_d (gq_ok oL_law0 195 (.aload_n 0) rfl) rfl rfl) (gx_d (gq_ok oL_law0 196 (.iload 4) rfl) rfl rfl) (gx_d (gq_ok oL_law0 198 (.iconst 4) rfl) rfl rfl) (gx_d (gq_ok oL_law0 199 (.iadd) rfl) rfl rfl) (gx_d (gq_ok oL_law0 200 (.iaload) rfl) rfl rfl) ?_
    refine gl_arg (i := i) 5 hx hb hScr hbl hbA hw.2.2.1 (lv_at hl 4 rfl) (lv_at hl 0 rfl) (by omega) hN (gx_d (gq_ok oL_law0 201 (.aload_n 0) rfl) rfl rfl) (gx_d (gq_ok oL_law0 202 (.iload 4) rfl) rfl rfl) (gx_d (gq_ok oL_law0 204 (.iconst 5) rfl) rfl rfl) (gx_d (gq_ok oL_law0 205 (.iadd) rfl) rfl rfl) (gx_d (gq_ok oL_law0 206 (.iaload) rfl) rfl rfl) ?_
    refine lv_aload_n hx hb (gx_d (gq_ok oL_law0 207 (.aload_n 3) rfl) rfl rfl) rfl (lv_at hl 1 rfl) ?_
    refine gl_callW (d := 101) (av := [.ref (gz_al sa Lc 0), .int (Int32.ofInt (xs (i + 1)).toInt), .int (Int32.ofInt (xs (i + 2)).toInt), .int (Int32.ofInt (xs (i + 3)).toInt), .int (Int32.ofInt (xs (i + 4)).toInt), .int (Int32.ofInt (xs (i + 5)).toInt), .ref ou]) (rest := []) hK.1 hx hb hml hpp hown hG hX (show gl_lW ws0 95 yL_feed (Cond.codeWith yL_feed cL_feed 8 (some .int) [(0, 16, 19, 13)]) 7 from ⟨(hwl _ (List.mem_of_getElem? (i := 0) rfl)), (hwl _ (List.mem_of_getElem? (i := 1) rfl)), (hwl _ (List.mem_of_getElem? (i := 2) rfl)), (hwl _ (List.mem_of_getElem? (i := 3) rfl)), by decide +kernel⟩) (w_feed_x hK (show gx_lV ws0 RL 7 (yX12_feed, cX12_feed, 6, (some .int)) 5 from ⟨(hwl _ (List.mem_of_getElem? (i := 4) rfl)), (hwl _ (List.mem_of_getElem? (i := 5) rfl)), (hwl _ (List.mem_of_getElem? (i := 6) rfl)), (hwl _ (List.mem_of_getElem? (i := 7) rfl)), (hwl _ (List.mem_of_getElem? (i := 8) rfl)), by decide +kernel, Nat.le_of_ble_eq_true rfl⟩) (hwl _ (List.mem_of_getElem? (i := 14) rfl)) ((xs (i + 1)).toInt) ((xs (i + 2)).toInt) ((xs (i + 3)).toInt) ((xs (i + 4)).toInt) ((xs (i + 5)).toInt) T9 hsh.1 H.size ou g Lc hLc) hl.1 ⟨by omega, by omega⟩ ⟨by omega, by omega⟩ (Nat.le_of_ble_eq_true rfl) hw (gx_d (gq_ok oL_law0 208 (.invokestatic 95) rfl) rfl rfl) (fun Lc' g' H1 locs1 hp hlen hg hw1 => ?_)
    have ha0 := gl_al0 (sa := sa) hp (by omega)
    refine lv_istore (lv' := [(5, .int 1), (4, .int (Int32.ofInt (i : Int))), (3, .ref ou), (2, .ref (gz_al sa Lr 0)), (1, .ref (gz_al sa Lc 0)), (0, .ref b)]) hx hb (gx_d (gq_ok oL_law0 211 (.istore 5) rfl) rfl rfl) hl (by decide) rfl (fun ls hl => ?_)
    have hw1 : gp_W D (fun q => s.heap.size ≤ q) s.heap (va_pl Lr (gz_f cy sa Lr (gr_sh ++ []) (gr_h Ir Jr)) ++ (gp_ou cy ou g' :: va_pl Lc' (gz_f cy sa Lc' sh (gc_h sh I J A)))) H1 locs1 := gp_W.comm (w1 := gp_ou cy ou g' :: va_pl Lc' _) hw1
    refine lv_aload_n hx hb (gx_d (gq_ok oL_law0 213 (.aload_n 2) rfl) rfl rfl) rfl (lv_at hl 3 rfl) ?_
    refine gl_arg (i := i) 1 hx hb hScr hbl hbA hw1.2.2.1 (lv_at hl 5 rfl) (lv_at hl 1 rfl) (by omega) hN (gx_d (gq_ok oL_law0 214 (.aload_n 0) rfl) rfl rfl) (gx_d (gq_ok oL_law0 215 (.iload 4) rfl) rfl rfl) (gx_d (gq_ok oL_law0 217 (.iconst 1) rfl) rfl rfl) (gx_d (gq_ok oL_law0 218 (.iadd) rfl) rfl rfl) (gx_d (gq_ok oL_law0 219 (.iaload) rfl) rfl rfl) ?_
    refine gl_arg (i := i) 2 hx hb hScr hbl hbA hw1.2.2.1 (lv_at hl 5 rfl) (lv_at hl 1 rfl) (by omega) hN (gx_d (gq_ok oL_law0 220 (.aload_n 0) rfl) rfl rfl) (gx_d (gq_ok oL_law1 221 (.iload 4) rfl) rfl rfl) (gx_d (gq_ok oL_law1 223 (.iconst 2) rfl) rfl rfl) (gx_d (gq_ok oL_law1 224 (.iadd) rfl) rfl rfl) (gx_d (gq_ok oL_law1 225 (.iaload) rfl) rfl rfl) ?_
    refine gl_arg (i := i) 3 hx hb hScr hbl hbA hw1.2.2.1 (lv_at hl 5 rfl) (lv_at hl 1 rfl) (by omega) hN (gx_d (gq_ok oL_law1 226 (.aload_n 0) rfl) rfl rfl) (gx_d (gq_ok oL_law1 227 (.iload 4) rfl) rfl rfl) (gx_d (gq_ok oL_law1 229 (.iconst 3) rfl) rfl rfl) (gx_d (gq_ok oL_law1 230 (.iadd) rfl) rfl rfl) (gx_d (gq_ok oL_law1 231 (.iaload) rfl) rfl rfl) ?_
    refine gl_arg (i := i) 4 hx hb hScr hbl hbA hw1.2.2.1 (lv_at hl 5 rfl) (lv_at hl 1 rfl) (by omega) hN (gx_d (gq_ok oL_law1 232 (.aload_n 0) rfl) rfl rfl) (gx_d (gq_ok oL_law1 233 (.iload 4) rfl) rfl rfl) (gx_d (gq_ok oL_law1 235 (.iconst 4) rfl) rfl rfl) (gx_d (gq_ok oL_law1 236 (.iadd) rfl) rfl rfl) (gx_d (gq_ok oL_law1 237 (.iaload) rfl) rfl rfl) ?_
    refine gl_arg (i := i) 5 hx hb hScr hbl hbA hw1.2.2.1 (lv_at hl 5 rfl) (lv_at hl 1 rfl) (by omega) hN (gx_d (gq_ok oL_law1 238 (.aload_n 0) rfl) rfl rfl) (gx_d (gq_ok oL_law1 239 (.iload 4) rfl) rfl rfl) (gx_d (gq_ok oL_law1 241 (.iconst 5) rfl) rfl rfl) (gx_d (gq_ok oL_law1 242 (.iadd) rfl) rfl rfl) (gx_d (gq_ok oL_law1 243 (.iaload) rfl) rfl rfl) ?_
    refine gl_callV (own := RL) (d := 1000) (As := [.inl ((xs (i + 1)).toInt), .inl ((xs (i + 2)).toInt), .inl ((xs (i + 3)).toInt), .inl ((xs (i + 4)).toInt), .inl ((xs (i + 5)).toInt)]) (rest := []) (ci := 13) hK hx hb hml hpp hown hG hX (show gx_lV ws0 RL 100 (yX13_feed, cX13_feed, 6, (some .int)) 5 from ⟨(hwl _ (List.mem_of_getElem? (i := 9) rfl)), (hwl _ (List.mem_of_getElem? (i := 10) rfl)), (hwl _ (List.mem_of_getElem? (i := 11) rfl)), (hwl _ (List.mem_of_getElem? (i := 12) rfl)), (hwl _ (List.mem_of_getElem? (i := 13) rfl)), by decide +kernel, Nat.le_of_ble_eq_true rfl⟩) rfl rfl ER hLr hl.1 ⟨by omega, by omega⟩ ⟨by omega, by omega⟩ (Nat.le_of_ble_eq_true rfl) hw1 (gx_d (gq_ok oL_law1 244 (.invokevirtual 100) rfl) rfl rfl) (fun Lr' H2 locs2 hp2 hlen2 hw2 => ?_)
    have ha2 := gl_al0 (sa := sa) hp2 (by rw [hLr]; exact gl_rs)
    show W _ _ _ _ _ _ _ _ _ _ _ _ _ _ _ (F0 m 247 ls [.int (Int32.ofInt zr)])
    refine lv_istore (lv' := [(6, .int (Int32.ofInt zr)), (5, .int 1), (4, .int (Int32.ofInt (i : Int))), (3, .ref ou), (2, .ref (gz_al sa Lr 0)), (1, .ref (gz_al sa Lc 0)), (0, .ref b)]) hx hb (gx_d (gq_ok oL_law1 247 (.istore 6) rfl) rfl rfl) hl (by decide) rfl (fun ls hl => ?_)
    refine lv_goto (tgt := 1246) hx hb (gx_d (gq_ok oL_law1 249 (.goto 997) rfl) rfl rfl) (by decide) ?_
    exact kk _ _ _ _ _ _ _ _ _ Lc' Lr' _ _ _ _ _ _ P9 ⟨hlen, hlen2, ha0, ha2⟩ (gp_W.comm hw2) (lv_sub hl [2, 3, 4, 5, 6] rfl) (by omega) (by omega)
set_option maxHeartbeats 2000000 in
theorem law_end {p : Program} {l : Launch} {e : Env} {R : Room} {s : State} {m : MethodId} {below : List Frame} {meth : Method} {c : Code} {b N : Nat} {xs : Nat → Int32} {D : va_G} {cy : Nat → ClassId} {sa : Nat → Nat} {sv : Nat} {ws0 : List Cond} {tb : String → gz_T} {h0 m0 ou c0 s0 : Nat} {Q : State → Prop} {i n : Nat} (K : gl_A p l s m meth c b N xs D cy sa sv ws0 tb R c0 s0) (hn : n < 64) (hi : i + 6 ≤ N) (kk : gl_H p l e R s m below meth c b D cy sa h0 m0 ou c0 s0 Q i (n + 1) 1246) : gl_H p l e R s m below meth c b D cy sa h0 m0 ou c0 s0 Q i n 252 := by
  intro a s9 sh ro I J A Ir Jr Lc Lr g H locs ls cells slots hP hLL hw hl hce hsl
  obtain ⟨hLc, hLr, rfl, rfl⟩ := hLL
  obtain ⟨⟨hx, hb, hml, hown, hpp⟩, ⟨hScr, hN, hbl⟩, hG, hX, hK, ⟨⟨hws, htb, hwr, htr, hwc, hwn⟩, hwl⟩, hR1, hR2, hR3, hR4⟩ := id K
  have hbA : ¬ (fun q : Nat => s.heap.size ≤ q) b := Nat.not_le.mpr hbl
  have hsh := gp_sh hP
  have hbd := gp_bd hP
  obtain ⟨rr, Ir', Jr', ER, hS9⟩ := gp_end hws htb hwr htr [] hP hn ((xs (i + 1)).toInt) (gl_rng _)
  obtain ⟨zr, rfl⟩ := gl_int ER (by decide) rfl
  rcases hS9 with ⟨r9, I', J', E9, P9⟩ | ⟨T9, P9⟩
  · obtain ⟨z9, rfl⟩ := gl_int E9 (by decide) rfl
    refine lv_aload_n hx hb (gx_d (gq_ok oL_law1 252 (.aload_n 1) rfl) rfl rfl) rfl (lv_at hl 3 rfl) ?_
    refine gl_arg (i := i) 1 hx hb hScr hbl hbA hw.2.2.1 (lv_at hl 4 rfl) (lv_at hl 0 rfl) (by omega) hN (gx_d (gq_ok oL_law1 253 (.aload_n 0) rfl) rfl rfl) (gx_d (gq_ok oL_law1 254 (.iload 4) rfl) rfl rfl) (gx_d (gq_ok oL_law1 256 (.iconst 1) rfl) rfl rfl) (gx_d (gq_ok oL_law1 257 (.iadd) rfl) rfl rfl) (gx_d (gq_ok oL_law1 258 (.iaload) rfl) rfl rfl) ?_
    refine lv_aload_n hx hb (gx_d (gq_ok oL_law1 259 (.aload_n 3) rfl) rfl rfl) rfl (lv_at hl 1 rfl) ?_
    refine gl_callW (d := 101) (av := [.ref (gz_al sa Lc 0), .int (Int32.ofInt (xs (i + 1)).toInt), .ref ou]) (rest := []) hK.1 hx hb hml hpp hown hG hX (show gl_lW ws0 101 yL_end (Cond.codeWith yL_end cL_end 4 (some .int) [(0, 9, 12, 19)]) 3 from ⟨(hwl _ (List.mem_of_getElem? (i := 15) rfl)), (hwl _ (List.mem_of_getElem? (i := 16) rfl)), (hwl _ (List.mem_of_getElem? (i := 17) rfl)), (hwl _ (List.mem_of_getElem? (i := 3) rfl)), by decide +kernel⟩) (w_end_n hK (show gx_lV ws0 RL 15 (yX12_end, cX12_end, 2, (some .int)) 1 from ⟨(hwl _ (List.mem_of_getElem? (i := 18) rfl)), (hwl _ (List.mem_of_getElem? (i := 19) rfl)), (hwl _ (List.mem_of_getElem? (i := 20) rfl)), (hwl _ (List.mem_of_getElem? (i := 21) rfl)), (hwl _ (List.mem_of_getElem? (i := 8) rfl)), by decide +kernel, Nat.le_of_ble_eq_true rfl⟩) ((xs (i + 1)).toInt) z9 E9 hsh.1 H.size ou g Lc hLc) hl.1 ⟨by omega, by omega⟩ ⟨by omega, by omega⟩ (Nat.le_of_ble_eq_true rfl) hw (gx_d (gq_ok oL_law1 260 (.invokestatic 101) rfl) rfl rfl) (fun Lc' g' H1 locs1 hp hlen hg hw1 => ?_)
    have ha0 := gl_al0 (sa := sa) hp (by omega)
    refine lv_istore (lv' := [(5, .int 0), (4, .int (Int32.ofInt (i : Int))), (3, .ref ou), (2, .ref (gz_al sa Lr 0)), (1, .ref (gz_al sa Lc 0)), (0, .ref b)]) hx hb (gx_d (gq_ok oL_law1 263 (.istore 5) rfl) rfl rfl) hl (by decide) rfl (fun ls hl => ?_)
    have hw1 : gp_W D (fun q => s.heap.size ≤ q) s.heap (va_pl Lr (gz_f cy sa Lr (gr_sh ++ []) (gr_h Ir Jr)) ++ (gp_ou cy ou g' :: va_pl Lc' (gz_f cy sa Lc' sh (gc_h sh I' J' A)))) H1 locs1 := gp_W.comm (w1 := gp_ou cy ou g' :: va_pl Lc' _) hw1
    refine lv_aload_n hx hb (gx_d (gq_ok oL_law1 265 (.aload_n 2) rfl) rfl rfl) rfl (lv_at hl 3 rfl) ?_
    refine gl_arg (i := i) 1 hx hb hScr hbl hbA hw1.2.2.1 (lv_at hl 5 rfl) (lv_at hl 1 rfl) (by omega) hN (gx_d (gq_ok oL_law1 266 (.aload_n 0) rfl) rfl rfl) (gx_d (gq_ok oL_law1 267 (.iload 4) rfl) rfl rfl) (gx_d (gq_ok oL_law1 269 (.iconst 1) rfl) rfl rfl) (gx_d (gq_ok oL_law1 270 (.iadd) rfl) rfl rfl) (gx_d (gq_ok oL_law1 271 (.iaload) rfl) rfl rfl) ?_
    refine gl_callV (own := RL) (d := 1000) (As := [.inl ((xs (i + 1)).toInt)]) (rest := []) (ci := 13) hK hx hb hml hpp hown hG hX (show gx_lV ws0 RL 104 (yX13_end, cX13_end, 2, (some .int)) 1 from ⟨(hwl _ (List.mem_of_getElem? (i := 22) rfl)), (hwl _ (List.mem_of_getElem? (i := 23) rfl)), (hwl _ (List.mem_of_getElem? (i := 24) rfl)), (hwl _ (List.mem_of_getElem? (i := 25) rfl)), (hwl _ (List.mem_of_getElem? (i := 13) rfl)), by decide +kernel, Nat.le_of_ble_eq_true rfl⟩) rfl rfl ER hLr hl.1 ⟨by omega, by omega⟩ ⟨by omega, by omega⟩ (Nat.le_of_ble_eq_true rfl) hw1 (gx_d (gq_ok oL_law1 272 (.invokevirtual 104) rfl) rfl rfl) (fun Lr' H2 locs2 hp2 hlen2 hw2 => ?_)
    have ha2 := gl_al0 (sa := sa) hp2 (by rw [hLr]; exact gl_rs)
    show W _ _ _ _ _ _ _ _ _ _ _ _ _ _ _ (F0 m 275 ls [.int (Int32.ofInt zr)])
    refine lv_istore (lv' := [(6, .int (Int32.ofInt zr)), (5, .int 0), (4, .int (Int32.ofInt (i : Int))), (3, .ref ou), (2, .ref (gz_al sa Lr 0)), (1, .ref (gz_al sa Lc 0)), (0, .ref b)]) hx hb (gx_d (gq_ok oL_law1 275 (.istore 6) rfl) rfl rfl) hl (by decide) rfl (fun ls hl => ?_)
    refine lv_goto (tgt := 1246) hx hb (gx_d (gq_ok oL_law1 277 (.goto 969) rfl) rfl rfl) (by decide) ?_
    exact kk _ _ _ _ _ _ _ _ _ Lc' Lr' _ _ _ _ _ _ P9 ⟨hlen, hlen2, ha0, ha2⟩ (gp_W.comm hw2) (lv_sub hl [2, 3, 4, 5, 6] rfl) (by omega) (by omega)
  · skip
    refine lv_aload_n hx hb (gx_d (gq_ok oL_law1 252 (.aload_n 1) rfl) rfl rfl) rfl (lv_at hl 3 rfl) ?_
    refine gl_arg (i := i) 1 hx hb hScr hbl hbA hw.2.2.1 (lv_at hl 4 rfl) (lv_at hl 0 rfl) (by omega) hN (gx_d (gq_ok oL_law1 253 (.aload_n 0) rfl) rfl rfl) (gx_d (gq_ok oL_law1 254 (.iload 4) rfl) rfl rfl) (gx_d (gq_ok oL_law1 256 (.iconst 1) rfl) rfl rfl) (gx_d (gq_ok oL_law1 257 (.iadd) rfl) rfl rfl) (gx_d (gq_ok oL_law1 258 (.iaload) rfl) rfl rfl) ?_
    refine lv_aload_n hx hb (gx_d (gq_ok oL_law1 259 (.aload_n 3) rfl) rfl rfl) rfl (lv_at hl 1 rfl) ?_
    refine gl_callW (d := 101) (av := [.ref (gz_al sa Lc 0), .int (Int32.ofInt (xs (i + 1)).toInt), .ref ou]) (rest := []) hK.1 hx hb hml hpp hown hG hX (show gl_lW ws0 101 yL_end (Cond.codeWith yL_end cL_end 4 (some .int) [(0, 9, 12, 19)]) 3 from ⟨(hwl _ (List.mem_of_getElem? (i := 15) rfl)), (hwl _ (List.mem_of_getElem? (i := 16) rfl)), (hwl _ (List.mem_of_getElem? (i := 17) rfl)), (hwl _ (List.mem_of_getElem? (i := 3) rfl)), by decide +kernel⟩) (w_end_x hK (show gx_lV ws0 RL 15 (yX12_end, cX12_end, 2, (some .int)) 1 from ⟨(hwl _ (List.mem_of_getElem? (i := 18) rfl)), (hwl _ (List.mem_of_getElem? (i := 19) rfl)), (hwl _ (List.mem_of_getElem? (i := 20) rfl)), (hwl _ (List.mem_of_getElem? (i := 21) rfl)), (hwl _ (List.mem_of_getElem? (i := 8) rfl)), by decide +kernel, Nat.le_of_ble_eq_true rfl⟩) (hwl _ (List.mem_of_getElem? (i := 26) rfl)) ((xs (i + 1)).toInt) T9 hsh.1 H.size ou g Lc hLc) hl.1 ⟨by omega, by omega⟩ ⟨by omega, by omega⟩ (Nat.le_of_ble_eq_true rfl) hw (gx_d (gq_ok oL_law1 260 (.invokestatic 101) rfl) rfl rfl) (fun Lc' g' H1 locs1 hp hlen hg hw1 => ?_)
    have ha0 := gl_al0 (sa := sa) hp (by omega)
    refine lv_istore (lv' := [(5, .int 1), (4, .int (Int32.ofInt (i : Int))), (3, .ref ou), (2, .ref (gz_al sa Lr 0)), (1, .ref (gz_al sa Lc 0)), (0, .ref b)]) hx hb (gx_d (gq_ok oL_law1 263 (.istore 5) rfl) rfl rfl) hl (by decide) rfl (fun ls hl => ?_)
    have hw1 : gp_W D (fun q => s.heap.size ≤ q) s.heap (va_pl Lr (gz_f cy sa Lr (gr_sh ++ []) (gr_h Ir Jr)) ++ (gp_ou cy ou g' :: va_pl Lc' (gz_f cy sa Lc' sh (gc_h sh I J A)))) H1 locs1 := gp_W.comm (w1 := gp_ou cy ou g' :: va_pl Lc' _) hw1
    refine lv_aload_n hx hb (gx_d (gq_ok oL_law1 265 (.aload_n 2) rfl) rfl rfl) rfl (lv_at hl 3 rfl) ?_
    refine gl_arg (i := i) 1 hx hb hScr hbl hbA hw1.2.2.1 (lv_at hl 5 rfl) (lv_at hl 1 rfl) (by omega) hN (gx_d (gq_ok oL_law1 266 (.aload_n 0) rfl) rfl rfl) (gx_d (gq_ok oL_law1 267 (.iload 4) rfl) rfl rfl) (gx_d (gq_ok oL_law1 269 (.iconst 1) rfl) rfl rfl) (gx_d (gq_ok oL_law1 270 (.iadd) rfl) rfl rfl) (gx_d (gq_ok oL_law1 271 (.iaload) rfl) rfl rfl) ?_
    refine gl_callV (own := RL) (d := 1000) (As := [.inl ((xs (i + 1)).toInt)]) (rest := []) (ci := 13) hK hx hb hml hpp hown hG hX (show gx_lV ws0 RL 104 (yX13_end, cX13_end, 2, (some .int)) 1 from ⟨(hwl _ (List.mem_of_getElem? (i := 22) rfl)), (hwl _ (List.mem_of_getElem? (i := 23) rfl)), (hwl _ (List.mem_of_getElem? (i := 24) rfl)), (hwl _ (List.mem_of_getElem? (i := 25) rfl)), (hwl _ (List.mem_of_getElem? (i := 13) rfl)), by decide +kernel, Nat.le_of_ble_eq_true rfl⟩) rfl rfl ER hLr hl.1 ⟨by omega, by omega⟩ ⟨by omega, by omega⟩ (Nat.le_of_ble_eq_true rfl) hw1 (gx_d (gq_ok oL_law1 272 (.invokevirtual 104) rfl) rfl rfl) (fun Lr' H2 locs2 hp2 hlen2 hw2 => ?_)
    have ha2 := gl_al0 (sa := sa) hp2 (by rw [hLr]; exact gl_rs)
    show W _ _ _ _ _ _ _ _ _ _ _ _ _ _ _ (F0 m 275 ls [.int (Int32.ofInt zr)])
    refine lv_istore (lv' := [(6, .int (Int32.ofInt zr)), (5, .int 1), (4, .int (Int32.ofInt (i : Int))), (3, .ref ou), (2, .ref (gz_al sa Lr 0)), (1, .ref (gz_al sa Lc 0)), (0, .ref b)]) hx hb (gx_d (gq_ok oL_law1 275 (.istore 6) rfl) rfl rfl) hl (by decide) rfl (fun ls hl => ?_)
    refine lv_goto (tgt := 1246) hx hb (gx_d (gq_ok oL_law1 277 (.goto 969) rfl) rfl rfl) (by decide) ?_
    exact kk _ _ _ _ _ _ _ _ _ Lc' Lr' _ _ _ _ _ _ P9 ⟨hlen, hlen2, ha0, ha2⟩ (gp_W.comm hw2) (lv_sub hl [2, 3, 4, 5, 6] rfl) (by omega) (by omega)
set_option maxHeartbeats 2000000 in
theorem law_module {p : Program} {l : Launch} {e : Env} {R : Room} {s : State} {m : MethodId} {below : List Frame} {meth : Method} {c : Code} {b N : Nat} {xs : Nat → Int32} {D : va_G} {cy : Nat → ClassId} {sa : Nat → Nat} {sv : Nat} {ws0 : List Cond} {tb : String → gz_T} {h0 m0 ou c0 s0 : Nat} {Q : State → Prop} {i n : Nat} (K : gl_A p l s m meth c b N xs D cy sa sv ws0 tb R c0 s0) (hn : n < 64) (hi : i + 6 ≤ N) (kk : gl_H p l e R s m below meth c b D cy sa h0 m0 ou c0 s0 Q i (n + 1) 1246) : gl_H p l e R s m below meth c b D cy sa h0 m0 ou c0 s0 Q i n 280 := by
  intro a s9 sh ro I J A Ir Jr Lc Lr g H locs ls cells slots hP hLL hw hl hce hsl
  obtain ⟨hLc, hLr, rfl, rfl⟩ := hLL
  obtain ⟨⟨hx, hb, hml, hown, hpp⟩, ⟨hScr, hN, hbl⟩, hG, hX, hK, ⟨⟨hws, htb, hwr, htr, hwc, hwn⟩, hwl⟩, hR1, hR2, hR3, hR4⟩ := id K
  have hbA : ¬ (fun q : Nat => s.heap.size ≤ q) b := Nat.not_le.mpr hbl
  have hsh := gp_sh hP
  have hbd := gp_bd hP
  obtain ⟨zr, Ir', Jr', x9, y9, sh', ro', I', J', A', ER, E9, hz, P9⟩ := gp_module hws htb hwr htr [] hP hn hwn
  have hbd2 := gp_bd P9
  refine lv_aload_n hx hb (gx_d (gq_ok oL_law1 280 (.aload_n 1) rfl) rfl rfl) rfl (lv_at hl 3 rfl) ?_
  have hw9 : gp_W D (fun q => s.heap.size ≤ q) s.heap (va_pl Lc (gz_f cy sa Lc sh (gc_h sh I J A)) ++ (va_pl Lr (gz_f cy sa Lr (gr_sh ++ []) (gr_h Ir Jr)) ++ [gp_ou cy ou g])) H locs := by
    rw [← List.append_assoc]
    exact gp_W.comm (w1 := [gp_ou cy ou g]) hw
  refine gl_callV (own := RL) (d := 100) (As := []) (rest := []) (ci := 12) hK hx hb hml hpp hown hG hX (show gx_lV ws0 RL 105 (yX12_module, cX12_module, 2, (some .int)) 0 from ⟨(hwl _ (List.mem_of_getElem? (i := 27) rfl)), (hwl _ (List.mem_of_getElem? (i := 28) rfl)), (hwl _ (List.mem_of_getElem? (i := 29) rfl)), (hwl _ (List.mem_of_getElem? (i := 30) rfl)), (hwl _ (List.mem_of_getElem? (i := 8) rfl)), by decide +kernel, Nat.le_of_ble_eq_true rfl⟩) rfl hsh.1 E9 hLc hl.1 ⟨by omega, by omega⟩ ⟨by omega, by omega⟩ (Nat.le_of_ble_eq_true rfl) hw9 (gx_d (gq_ok oL_law1 281 (.invokevirtual 105) rfl) rfl rfl) (fun Lc' H1 locs1 hp hlen hw1 => ?_)
  have ha0 := gl_al0 (sa := sa) hp (by omega)
  rw [← List.append_assoc] at hw1
  have hw1 := hw1.comm
  show W _ _ _ _ _ _ _ _ _ _ _ _ _ _ _ (F0 m 284 ls [.int (Int32.ofInt zr)])
  refine lv_pop hx hb (gx_d (gq_ok oL_law1 284 (.pop) rfl) rfl rfl) rfl ?_
  have hw1 : gp_W D (fun q => s.heap.size ≤ q) s.heap (va_pl Lr (gz_f cy sa Lr (gr_sh ++ []) (gr_h Ir Jr)) ++ (gp_ou cy ou g :: va_pl Lc' (gz_f cy sa Lc' sh' (gc_h sh' I' J' A')))) H1 locs1 := gp_W.comm (w1 := gp_ou cy ou g :: va_pl Lc' _) hw1
  refine lv_aload_n hx hb (gx_d (gq_ok oL_law1 285 (.aload_n 2) rfl) rfl rfl) rfl (lv_at hl 2 rfl) ?_
  refine gl_callV (own := RL) (d := 1000) (As := []) (rest := []) (ci := 13) hK hx hb hml hpp hown hG hX (show gx_lV ws0 RL 109 (yX13_module, cX13_module, 2, (some .int)) 0 from ⟨(hwl _ (List.mem_of_getElem? (i := 31) rfl)), (hwl _ (List.mem_of_getElem? (i := 32) rfl)), (hwl _ (List.mem_of_getElem? (i := 33) rfl)), (hwl _ (List.mem_of_getElem? (i := 34) rfl)), (hwl _ (List.mem_of_getElem? (i := 13) rfl)), by decide +kernel, Nat.le_of_ble_eq_true rfl⟩) rfl rfl ER hLr hl.1 ⟨by omega, by omega⟩ ⟨by omega, by omega⟩ (Nat.le_of_ble_eq_true rfl) hw1 (gx_d (gq_ok oL_law1 286 (.invokevirtual 109) rfl) rfl rfl) (fun Lr' H2 locs2 hp2 hlen2 hw2 => ?_)
  have ha2 := gl_al0 (sa := sa) hp2 (by rw [hLr]; exact gl_rs)
  show W _ _ _ _ _ _ _ _ _ _ _ _ _ _ _ (F0 m 289 ls [.int (Int32.ofInt zr)])
  refine lv_pop hx hb (gx_d (gq_ok oL_law1 289 (.pop) rfl) rfl rfl) rfl ?_
  refine lv_goto (tgt := 1246) hx hb (gx_d (gq_ok oL_law1 290 (.goto 956) rfl) rfl rfl) (by decide) ?_
  exact kk _ _ _ _ _ _ _ _ _ Lc' Lr' _ _ _ _ _ _ P9 ⟨hlen, hlen2, ha0, ha2⟩ (gp_W.comm hw2) (lv_sub hl [0, 1, 2, 3, 4] rfl) (by omega) (by omega)
set_option maxHeartbeats 2000000 in
theorem law_rule {p : Program} {l : Launch} {e : Env} {R : Room} {s : State} {m : MethodId} {below : List Frame} {meth : Method} {c : Code} {b N : Nat} {xs : Nat → Int32} {D : va_G} {cy : Nat → ClassId} {sa : Nat → Nat} {sv : Nat} {ws0 : List Cond} {tb : String → gz_T} {h0 m0 ou c0 s0 : Nat} {Q : State → Prop} {i n : Nat} (K : gl_A p l s m meth c b N xs D cy sa sv ws0 tb R c0 s0) (hn : n < 64) (hi : i + 6 ≤ N) (kk : gl_H p l e R s m below meth c b D cy sa h0 m0 ou c0 s0 Q i (n + 1) 1246) : gl_H p l e R s m below meth c b D cy sa h0 m0 ou c0 s0 Q i n 293 := by
  intro a s9 sh ro I J A Ir Jr Lc Lr g H locs ls cells slots hP hLL hw hl hce hsl
  obtain ⟨hLc, hLr, rfl, rfl⟩ := hLL
  obtain ⟨⟨hx, hb, hml, hown, hpp⟩, ⟨hScr, hN, hbl⟩, hG, hX, hK, ⟨⟨hws, htb, hwr, htr, hwc, hwn⟩, hwl⟩, hR1, hR2, hR3, hR4⟩ := id K
  have hbA : ¬ (fun q : Nat => s.heap.size ≤ q) b := Nat.not_le.mpr hbl
  have hsh := gp_sh hP
  have hbd := gp_bd hP
  obtain ⟨rr, Ir', Jr', ER, r9, I', J', E9, P9⟩ := gp_rule hws htb hwr htr [] hP hn  
  obtain ⟨zr, rfl⟩ := gl_int ER (by decide) rfl
  obtain ⟨z9, rfl⟩ := gl_int E9 (by decide) rfl
  refine lv_aload_n hx hb (gx_d (gq_ok oL_law1 293 (.aload_n 1) rfl) rfl rfl) rfl (lv_at hl 3 rfl) ?_
  have hw9 : gp_W D (fun q => s.heap.size ≤ q) s.heap (va_pl Lc (gz_f cy sa Lc sh (gc_h sh I J A)) ++ (va_pl Lr (gz_f cy sa Lr (gr_sh ++ []) (gr_h Ir Jr)) ++ [gp_ou cy ou g])) H locs := by
    rw [← List.append_assoc]
    exact gp_W.comm (w1 := [gp_ou cy ou g]) hw
  refine gl_callV (own := RL) (d := 100) (As := []) (rest := []) (ci := 12) hK hx hb hml hpp hown hG hX (show gx_lV ws0 RL 110 (yX12_rule, cX12_rule, 1, (some .int)) 0 from ⟨(hwl _ (List.mem_of_getElem? (i := 35) rfl)), (hwl _ (List.mem_of_getElem? (i := 36) rfl)), (hwl _ (List.mem_of_getElem? (i := 37) rfl)), (hwl _ (List.mem_of_getElem? (i := 38) rfl)), (hwl _ (List.mem_of_getElem? (i := 8) rfl)), by decide +kernel, Nat.le_of_ble_eq_true rfl⟩) rfl hsh.1 E9 hLc hl.1 ⟨by omega, by omega⟩ ⟨by omega, by omega⟩ (Nat.le_of_ble_eq_true rfl) hw9 (gx_d (gq_ok oL_law1 294 (.invokevirtual 110) rfl) rfl rfl) (fun Lc' H1 locs1 hp hlen hw1 => ?_)
  have ha0 := gl_al0 (sa := sa) hp (by omega)
  rw [← List.append_assoc] at hw1
  have hw1 := hw1.comm
  show W _ _ _ _ _ _ _ _ _ _ _ _ _ _ _ (F0 m 297 ls [.int (Int32.ofInt z9)])
  refine lv_pop hx hb (gx_d (gq_ok oL_law1 297 (.pop) rfl) rfl rfl) rfl ?_
  have hw1 : gp_W D (fun q => s.heap.size ≤ q) s.heap (va_pl Lr (gz_f cy sa Lr (gr_sh ++ []) (gr_h Ir Jr)) ++ (gp_ou cy ou g :: va_pl Lc' (gz_f cy sa Lc' sh (gc_h sh I' J' A)))) H1 locs1 := gp_W.comm (w1 := gp_ou cy ou g :: va_pl Lc' _) hw1
  refine lv_aload_n hx hb (gx_d (gq_ok oL_law1 298 (.aload_n 2) rfl) rfl rfl) rfl (lv_at hl 2 rfl) ?_
  refine gl_callV (own := RL) (d := 1000) (As := []) (rest := []) (ci := 13) hK hx hb hml hpp hown hG hX (show gx_lV ws0 RL 113 (yX13_rule, cX13_rule, 1, (some .int)) 0 from ⟨(hwl _ (List.mem_of_getElem? (i := 39) rfl)), (hwl _ (List.mem_of_getElem? (i := 40) rfl)), (hwl _ (List.mem_of_getElem? (i := 41) rfl)), (hwl _ (List.mem_of_getElem? (i := 42) rfl)), (hwl _ (List.mem_of_getElem? (i := 13) rfl)), by decide +kernel, Nat.le_of_ble_eq_true rfl⟩) rfl rfl ER hLr hl.1 ⟨by omega, by omega⟩ ⟨by omega, by omega⟩ (Nat.le_of_ble_eq_true rfl) hw1 (gx_d (gq_ok oL_law1 299 (.invokevirtual 113) rfl) rfl rfl) (fun Lr' H2 locs2 hp2 hlen2 hw2 => ?_)
  have ha2 := gl_al0 (sa := sa) hp2 (by rw [hLr]; exact gl_rs)
  show W _ _ _ _ _ _ _ _ _ _ _ _ _ _ _ (F0 m 302 ls [.int (Int32.ofInt zr)])
  refine lv_pop hx hb (gx_d (gq_ok oL_law1 302 (.pop) rfl) rfl rfl) rfl ?_
  refine lv_goto (tgt := 1246) hx hb (gx_d (gq_ok oL_law1 303 (.goto 943) rfl) rfl rfl) (by decide) ?_
  exact kk _ _ _ _ _ _ _ _ _ Lc' Lr' _ _ _ _ _ _ P9 ⟨hlen, hlen2, ha0, ha2⟩ (gp_W.comm hw2) (lv_sub hl [0, 1, 2, 3, 4] rfl) (by omega) (by omega)
set_option maxHeartbeats 2000000 in
theorem law_out {p : Program} {l : Launch} {e : Env} {R : Room} {s : State} {m : MethodId} {below : List Frame} {meth : Method} {c : Code} {b N : Nat} {xs : Nat → Int32} {D : va_G} {cy : Nat → ClassId} {sa : Nat → Nat} {sv : Nat} {ws0 : List Cond} {tb : String → gz_T} {h0 m0 ou c0 s0 : Nat} {Q : State → Prop} {i n : Nat} (K : gl_A p l s m meth c b N xs D cy sa sv ws0 tb R c0 s0) (hn : n < 64) (hi : i + 6 ≤ N) (kk : gl_H p l e R s m below meth c b D cy sa h0 m0 ou c0 s0 Q i (n + 1) 1246) : gl_H p l e R s m below meth c b D cy sa h0 m0 ou c0 s0 Q i n 306 := by
  intro a s9 sh ro I J A Ir Jr Lc Lr g H locs ls cells slots hP hLL hw hl hce hsl
  obtain ⟨hLc, hLr, rfl, rfl⟩ := hLL
  obtain ⟨⟨hx, hb, hml, hown, hpp⟩, ⟨hScr, hN, hbl⟩, hG, hX, hK, ⟨⟨hws, htb, hwr, htr, hwc, hwn⟩, hwl⟩, hR1, hR2, hR3, hR4⟩ := id K
  have hbA : ¬ (fun q : Nat => s.heap.size ≤ q) b := Nat.not_le.mpr hbl
  have hsh := gp_sh hP
  have hbd := gp_bd hP
  obtain ⟨rr, Ir', Jr', ER, r9, I', J', E9, P9⟩ := gp_out hws htb hwr htr [] hP hn ((xs (i + 1)).toInt) (gl_rng _)
  obtain ⟨zr, rfl⟩ := gl_int ER (by decide) rfl
  obtain ⟨z9, rfl⟩ := gl_int E9 (by decide) rfl
  refine lv_aload_n hx hb (gx_d (gq_ok oL_law1 306 (.aload_n 1) rfl) rfl rfl) rfl (lv_at hl 3 rfl) ?_
  refine gl_arg (i := i) 1 hx hb hScr hbl hbA hw.2.2.1 (lv_at hl 4 rfl) (lv_at hl 0 rfl) (by omega) hN (gx_d (gq_ok oL_law1 307 (.aload_n 0) rfl) rfl rfl) (gx_d (gq_ok oL_law1 308 (.iload 4) rfl) rfl rfl) (gx_d (gq_ok oL_law1 310 (.iconst 1) rfl) rfl rfl) (gx_d (gq_ok oL_law1 311 (.iadd) rfl) rfl rfl) (gx_d (gq_ok oL_law1 312 (.iaload) rfl) rfl rfl) ?_
  have hw9 : gp_W D (fun q => s.heap.size ≤ q) s.heap (va_pl Lc (gz_f cy sa Lc sh (gc_h sh I J A)) ++ (va_pl Lr (gz_f cy sa Lr (gr_sh ++ []) (gr_h Ir Jr)) ++ [gp_ou cy ou g])) H locs := by
    rw [← List.append_assoc]
    exact gp_W.comm (w1 := [gp_ou cy ou g]) hw
  refine gl_callV (own := RL) (d := 100) (As := [.inl ((xs (i + 1)).toInt)]) (rest := []) (ci := 12) hK hx hb hml hpp hown hG hX (show gx_lV ws0 RL 114 (yX12_out, cX12_out, 2, (some .int)) 1 from ⟨(hwl _ (List.mem_of_getElem? (i := 43) rfl)), (hwl _ (List.mem_of_getElem? (i := 44) rfl)), (hwl _ (List.mem_of_getElem? (i := 45) rfl)), (hwl _ (List.mem_of_getElem? (i := 46) rfl)), (hwl _ (List.mem_of_getElem? (i := 8) rfl)), by decide +kernel, Nat.le_of_ble_eq_true rfl⟩) rfl hsh.1 E9 hLc hl.1 ⟨by omega, by omega⟩ ⟨by omega, by omega⟩ (Nat.le_of_ble_eq_true rfl) hw9 (gx_d (gq_ok oL_law2 313 (.invokevirtual 114) rfl) rfl rfl) (fun Lc' H1 locs1 hp hlen hw1 => ?_)
  have ha0 := gl_al0 (sa := sa) hp (by omega)
  rw [← List.append_assoc] at hw1
  have hw1 := hw1.comm
  show W _ _ _ _ _ _ _ _ _ _ _ _ _ _ _ (F0 m 316 ls [.int (Int32.ofInt z9)])
  refine lv_pop hx hb (gx_d (gq_ok oL_law2 316 (.pop) rfl) rfl rfl) rfl ?_
  have hw1 : gp_W D (fun q => s.heap.size ≤ q) s.heap (va_pl Lr (gz_f cy sa Lr (gr_sh ++ []) (gr_h Ir Jr)) ++ (gp_ou cy ou g :: va_pl Lc' (gz_f cy sa Lc' sh (gc_h sh I' J' A)))) H1 locs1 := gp_W.comm (w1 := gp_ou cy ou g :: va_pl Lc' _) hw1
  refine lv_aload_n hx hb (gx_d (gq_ok oL_law2 317 (.aload_n 2) rfl) rfl rfl) rfl (lv_at hl 2 rfl) ?_
  refine gl_arg (i := i) 1 hx hb hScr hbl hbA hw1.2.2.1 (lv_at hl 4 rfl) (lv_at hl 0 rfl) (by omega) hN (gx_d (gq_ok oL_law2 318 (.aload_n 0) rfl) rfl rfl) (gx_d (gq_ok oL_law2 319 (.iload 4) rfl) rfl rfl) (gx_d (gq_ok oL_law2 321 (.iconst 1) rfl) rfl rfl) (gx_d (gq_ok oL_law2 322 (.iadd) rfl) rfl rfl) (gx_d (gq_ok oL_law2 323 (.iaload) rfl) rfl rfl) ?_
  refine gl_callV (own := RL) (d := 1000) (As := [.inl ((xs (i + 1)).toInt)]) (rest := []) (ci := 13) hK hx hb hml hpp hown hG hX (show gx_lV ws0 RL 117 (yX13_out, cX13_out, 2, (some .int)) 1 from ⟨(hwl _ (List.mem_of_getElem? (i := 47) rfl)), (hwl _ (List.mem_of_getElem? (i := 48) rfl)), (hwl _ (List.mem_of_getElem? (i := 49) rfl)), (hwl _ (List.mem_of_getElem? (i := 50) rfl)), (hwl _ (List.mem_of_getElem? (i := 13) rfl)), by decide +kernel, Nat.le_of_ble_eq_true rfl⟩) rfl rfl ER hLr hl.1 ⟨by omega, by omega⟩ ⟨by omega, by omega⟩ (Nat.le_of_ble_eq_true rfl) hw1 (gx_d (gq_ok oL_law2 324 (.invokevirtual 117) rfl) rfl rfl) (fun Lr' H2 locs2 hp2 hlen2 hw2 => ?_)
  have ha2 := gl_al0 (sa := sa) hp2 (by rw [hLr]; exact gl_rs)
  show W _ _ _ _ _ _ _ _ _ _ _ _ _ _ _ (F0 m 327 ls [.int (Int32.ofInt zr)])
  refine lv_pop hx hb (gx_d (gq_ok oL_law2 327 (.pop) rfl) rfl rfl) rfl ?_
  refine lv_goto (tgt := 1246) hx hb (gx_d (gq_ok oL_law2 328 (.goto 918) rfl) rfl rfl) (by decide) ?_
  exact kk _ _ _ _ _ _ _ _ _ Lc' Lr' _ _ _ _ _ _ P9 ⟨hlen, hlen2, ha0, ha2⟩ (gp_W.comm hw2) (lv_sub hl [0, 1, 2, 3, 4] rfl) (by omega) (by omega)
set_option maxHeartbeats 2000000 in
theorem law_number {p : Program} {l : Launch} {e : Env} {R : Room} {s : State} {m : MethodId} {below : List Frame} {meth : Method} {c : Code} {b N : Nat} {xs : Nat → Int32} {D : va_G} {cy : Nat → ClassId} {sa : Nat → Nat} {sv : Nat} {ws0 : List Cond} {tb : String → gz_T} {h0 m0 ou c0 s0 : Nat} {Q : State → Prop} {i n : Nat} (K : gl_A p l s m meth c b N xs D cy sa sv ws0 tb R c0 s0) (hn : n < 64) (hi : i + 6 ≤ N) (kk : gl_H p l e R s m below meth c b D cy sa h0 m0 ou c0 s0 Q i (n + 1) 1246) : gl_H p l e R s m below meth c b D cy sa h0 m0 ou c0 s0 Q i n 331 := by
  intro a s9 sh ro I J A Ir Jr Lc Lr g H locs ls cells slots hP hLL hw hl hce hsl
  obtain ⟨hLc, hLr, rfl, rfl⟩ := hLL
  obtain ⟨⟨hx, hb, hml, hown, hpp⟩, ⟨hScr, hN, hbl⟩, hG, hX, hK, ⟨⟨hws, htb, hwr, htr, hwc, hwn⟩, hwl⟩, hR1, hR2, hR3, hR4⟩ := id K
  have hbA : ¬ (fun q : Nat => s.heap.size ≤ q) b := Nat.not_le.mpr hbl
  have hsh := gp_sh hP
  have hbd := gp_bd hP
  obtain ⟨zr, Ir', Jr', ER, hI', hz, ⟨I', J', E9, ht0, P9⟩ | ⟨T9, ht0, P9⟩⟩ := gp_numberx hws htb hwr htr [] hP hn ((xs (i + 1)).toInt) ((xs (i + 2)).toInt) (gl_rng _) (gl_rng _)
  · skip
    refine lv_aload_n hx hb (gx_d (gq_ok oL_law2 331 (.aload_n 1) rfl) rfl rfl) rfl (lv_at hl 3 rfl) ?_
    refine gl_arg (i := i) 1 hx hb hScr hbl hbA hw.2.2.1 (lv_at hl 4 rfl) (lv_at hl 0 rfl) (by omega) hN (gx_d (gq_ok oL_law2 332 (.aload_n 0) rfl) rfl rfl) (gx_d (gq_ok oL_law2 333 (.iload 4) rfl) rfl rfl) (gx_d (gq_ok oL_law2 335 (.iconst 1) rfl) rfl rfl) (gx_d (gq_ok oL_law2 336 (.iadd) rfl) rfl rfl) (gx_d (gq_ok oL_law2 337 (.iaload) rfl) rfl rfl) ?_
    refine gl_arg (i := i) 2 hx hb hScr hbl hbA hw.2.2.1 (lv_at hl 4 rfl) (lv_at hl 0 rfl) (by omega) hN (gx_d (gq_ok oL_law2 338 (.aload_n 0) rfl) rfl rfl) (gx_d (gq_ok oL_law2 339 (.iload 4) rfl) rfl rfl) (gx_d (gq_ok oL_law2 341 (.iconst 2) rfl) rfl rfl) (gx_d (gq_ok oL_law2 342 (.iadd) rfl) rfl rfl) (gx_d (gq_ok oL_law2 343 (.iaload) rfl) rfl rfl) ?_
    refine lv_aload_n hx hb (gx_d (gq_ok oL_law2 344 (.aload_n 3) rfl) rfl rfl) rfl (lv_at hl 1 rfl) ?_
    refine gl_callW (d := 101) (av := [.ref (gz_al sa Lc 0), .int (Int32.ofInt (xs (i + 1)).toInt), .int (Int32.ofInt (xs (i + 2)).toInt), .ref ou]) (rest := []) hK.1 hx hb hml hpp hown hG hX (show gl_lW ws0 118 yL_number (Cond.codeWith yL_number cL_number 5 (some .int) [(0, 10, 13, 19)]) 4 from ⟨(hwl _ (List.mem_of_getElem? (i := 51) rfl)), (hwl _ (List.mem_of_getElem? (i := 52) rfl)), (hwl _ (List.mem_of_getElem? (i := 53) rfl)), (hwl _ (List.mem_of_getElem? (i := 3) rfl)), by decide +kernel⟩) (w_number_n hK (show gx_lV ws0 RL 21 (yX12_number, cX12_number, 6, (some .int)) 2 from ⟨(hwl _ (List.mem_of_getElem? (i := 54) rfl)), (hwl _ (List.mem_of_getElem? (i := 55) rfl)), (hwl _ (List.mem_of_getElem? (i := 56) rfl)), (hwl _ (List.mem_of_getElem? (i := 57) rfl)), (hwl _ (List.mem_of_getElem? (i := 8) rfl)), by decide +kernel, Nat.le_of_ble_eq_true rfl⟩) ((xs (i + 1)).toInt) ((xs (i + 2)).toInt) zr E9 hsh.1 H.size ou g Lc hLc) hl.1 ⟨by omega, by omega⟩ ⟨by omega, by omega⟩ (Nat.le_of_ble_eq_true rfl) hw (gx_d (gq_ok oL_law2 345 (.invokestatic 118) rfl) rfl rfl) (fun Lc' g' H1 locs1 hp hlen hg hw1 => ?_)
    have ha0 := gl_al0 (sa := sa) hp (by omega)
    refine lv_istore (lv' := [(5, .int 0), (4, .int (Int32.ofInt (i : Int))), (3, .ref ou), (2, .ref (gz_al sa Lr 0)), (1, .ref (gz_al sa Lc 0)), (0, .ref b)]) hx hb (gx_d (gq_ok oL_law2 348 (.istore 5) rfl) rfl rfl) hl (by decide) rfl (fun ls hl => ?_)
    have hw1 : gp_W D (fun q => s.heap.size ≤ q) s.heap (va_pl Lr (gz_f cy sa Lr (gr_sh ++ []) (gr_h Ir Jr)) ++ (gp_ou cy ou g' :: va_pl Lc' (gz_f cy sa Lc' sh (gc_h sh I' J' A)))) H1 locs1 := gp_W.comm (w1 := gp_ou cy ou g' :: va_pl Lc' _) hw1
    refine lv_aload_n hx hb (gx_d (gq_ok oL_law2 350 (.aload_n 2) rfl) rfl rfl) rfl (lv_at hl 3 rfl) ?_
    refine gl_arg (i := i) 1 hx hb hScr hbl hbA hw1.2.2.1 (lv_at hl 5 rfl) (lv_at hl 1 rfl) (by omega) hN (gx_d (gq_ok oL_law2 351 (.aload_n 0) rfl) rfl rfl) (gx_d (gq_ok oL_law2 352 (.iload 4) rfl) rfl rfl) (gx_d (gq_ok oL_law2 354 (.iconst 1) rfl) rfl rfl) (gx_d (gq_ok oL_law2 355 (.iadd) rfl) rfl rfl) (gx_d (gq_ok oL_law2 356 (.iaload) rfl) rfl rfl) ?_
    refine gl_arg (i := i) 2 hx hb hScr hbl hbA hw1.2.2.1 (lv_at hl 5 rfl) (lv_at hl 1 rfl) (by omega) hN (gx_d (gq_ok oL_law2 357 (.aload_n 0) rfl) rfl rfl) (gx_d (gq_ok oL_law2 358 (.iload 4) rfl) rfl rfl) (gx_d (gq_ok oL_law2 360 (.iconst 2) rfl) rfl rfl) (gx_d (gq_ok oL_law2 361 (.iadd) rfl) rfl rfl) (gx_d (gq_ok oL_law2 362 (.iaload) rfl) rfl rfl) ?_
    refine gl_callV (own := RL) (d := 1000) (As := [.inl ((xs (i + 1)).toInt), .inl ((xs (i + 2)).toInt)]) (rest := []) (ci := 13) hK hx hb hml hpp hown hG hX (show gx_lV ws0 RL 121 (yX13_number, cX13_number, 5, (some .int)) 2 from ⟨(hwl _ (List.mem_of_getElem? (i := 58) rfl)), (hwl _ (List.mem_of_getElem? (i := 59) rfl)), (hwl _ (List.mem_of_getElem? (i := 60) rfl)), (hwl _ (List.mem_of_getElem? (i := 61) rfl)), (hwl _ (List.mem_of_getElem? (i := 13) rfl)), by decide +kernel, Nat.le_of_ble_eq_true rfl⟩) rfl rfl ER hLr hl.1 ⟨by omega, by omega⟩ ⟨by omega, by omega⟩ (Nat.le_of_ble_eq_true rfl) hw1 (gx_d (gq_ok oL_law2 363 (.invokevirtual 121) rfl) rfl rfl) (fun Lr' H2 locs2 hp2 hlen2 hw2 => ?_)
    have ha2 := gl_al0 (sa := sa) hp2 (by rw [hLr]; exact gl_rs)
    show W _ _ _ _ _ _ _ _ _ _ _ _ _ _ _ (F0 m 366 ls [.int (Int32.ofInt zr)])
    refine lv_istore (lv' := [(6, .int (Int32.ofInt zr)), (5, .int 0), (4, .int (Int32.ofInt (i : Int))), (3, .ref ou), (2, .ref (gz_al sa Lr 0)), (1, .ref (gz_al sa Lc 0)), (0, .ref b)]) hx hb (gx_d (gq_ok oL_law2 366 (.istore 6) rfl) rfl rfl) hl (by decide) rfl (fun ls hl => ?_)
    refine lv_aload_n hx hb (gx_d (gq_ok oL_law2 368 (.aload_n 2) rfl) rfl rfl) rfl (lv_at hl 4 rfl) ?_
    refine gl_topr (y := gz_al sa Lr' 0) ha2.symm ?_
    obtain ⟨r8, h8, ET, rfl, rfl⟩ := r_thrown_b hwr htr [] Ir' Jr' hI'
    refine gl_callV (own := RL) (d := 1000) (As := []) (rest := []) (ci := 13) hK hx hb hml hpp hown hG hX (show gx_lV ws0 RL 122 (yX13_thrown, cX13_thrown, 1, (some .int)) 0 from ⟨(hwl _ (List.mem_of_getElem? (i := 62) rfl)), (hwl _ (List.mem_of_getElem? (i := 63) rfl)), (hwl _ (List.mem_of_getElem? (i := 64) rfl)), (hwl _ (List.mem_of_getElem? (i := 65) rfl)), (hwl _ (List.mem_of_getElem? (i := 13) rfl)), by decide +kernel, Nat.le_of_ble_eq_true rfl⟩) rfl rfl (gz_Ev_mono (d := 1) (by decide) ET) hlen2 hl.1 ⟨by omega, by omega⟩ ⟨by omega, by omega⟩ (Nat.le_of_ble_eq_true rfl) hw2 (gx_d (gq_ok oL_law2 369 (.invokevirtual 122) rfl) rfl rfl) (fun Lr2 H3 locs3 hp3 hlen3 hw3 => ?_)
    have ha3 := gl_al0 (sa := sa) hp3 (by rw [hlen2]; exact gl_rs)
    show W _ _ _ _ _ _ _ _ _ _ _ _ _ _ _ (F0 m 372 ls [.int (Int32.ofInt (Ir' 0 0))])
    rw [ht0]
    refine lv_iload hx hb (gx_d (gq_ok oL_law2 372 (.iload 5) rfl) rfl rfl) (lv_at hl 1 rfl) ?_
    refine lv_icmp_eq (tgt := 379) hx hb (gx_d (gq_ok oL_law2 374 (.if_icmp .eq 5) rfl) rfl rfl) (by decide) (fun _ => ?_) (fun c9 => absurd (by decide) c9)
    refine lv_iload hx hb (gx_d (gq_ok oL_law2 379 (.iload 5) rfl) rfl rfl) (lv_at hl 1 rfl) ?_
    refine lv_if_ne (tgt := 396) hx hb (gx_d (gq_ok oL_law2 381 (.ifCond .ne 15) rfl) rfl rfl) (by decide) (fun c9 => absurd rfl c9) (fun _ => ?_)
    refine lv_aload_n hx hb (gx_d (gq_ok oL_law2 384 (.aload_n 3) rfl) rfl rfl) rfl (lv_at hl 3 rfl) ?_
    refine lv_iconst (v := 0) hx hb (gx_d (gq_ok oL_law2 385 (.iconst 0) rfl) rfl rfl) (by decide) ?_
    refine gp_lald hx hb hG (gp_W.comm hw3) (gx_d (gq_ok oL_law2 386 (.laload) rfl) rfl rfl) ?_
    have hg : g' 0 = (Int32.ofInt zr).toInt64 := hg
    rw [hg]
    refine lv_iload hx hb (gx_d (gq_ok oL_law2 387 (.iload 6) rfl) rfl rfl) (lv_at hl 0 rfl) ?_
    refine lv_i2l (v := (Int32.ofInt zr).toInt64) hx hb (gx_d (gq_ok oL_law2 389 (.i2l) rfl) rfl rfl) rfl ?_
    refine W.lcmp hx hb (gx_d (gq_ok oL_law2 390 (.lcmp) rfl) rfl rfl) ?_
    rw [gl_cmp0]
    refine lv_if_eq (tgt := 396) hx hb (gx_d (gq_ok oL_law2 391 (.ifCond .eq 5) rfl) rfl rfl) (by decide) (fun _ => ?_) (fun c9 => absurd rfl c9)
    refine lv_goto (tgt := 1246) hx hb (gx_d (gq_ok oL_law2 396 (.goto 850) rfl) rfl rfl) (by decide) ?_
    exact kk _ _ _ _ _ _ _ _ _ Lc' Lr2 _ _ _ _ _ _ P9 ⟨hlen, hlen3, ha0, (ha3.trans ha2)⟩ (gp_W.comm hw3) (lv_sub hl [2, 3, 4, 5, 6] rfl) (by omega) (by omega)
  · skip
    refine lv_aload_n hx hb (gx_d (gq_ok oL_law2 331 (.aload_n 1) rfl) rfl rfl) rfl (lv_at hl 3 rfl) ?_
    refine gl_arg (i := i) 1 hx hb hScr hbl hbA hw.2.2.1 (lv_at hl 4 rfl) (lv_at hl 0 rfl) (by omega) hN (gx_d (gq_ok oL_law2 332 (.aload_n 0) rfl) rfl rfl) (gx_d (gq_ok oL_law2 333 (.iload 4) rfl) rfl rfl) (gx_d (gq_ok oL_law2 335 (.iconst 1) rfl) rfl rfl) (gx_d (gq_ok oL_law2 336 (.iadd) rfl) rfl rfl) (gx_d (gq_ok oL_law2 337 (.iaload) rfl) rfl rfl) ?_
    refine gl_arg (i := i) 2 hx hb hScr hbl hbA hw.2.2.1 (lv_at hl 4 rfl) (lv_at hl 0 rfl) (by omega) hN (gx_d (gq_ok oL_law2 338 (.aload_n 0) rfl) rfl rfl) (gx_d (gq_ok oL_law2 339 (.iload 4) rfl) rfl rfl) (gx_d (gq_ok oL_law2 341 (.iconst 2) rfl) rfl rfl) (gx_d (gq_ok oL_law2 342 (.iadd) rfl) rfl rfl) (gx_d (gq_ok oL_law2 343 (.iaload) rfl) rfl rfl) ?_
    refine lv_aload_n hx hb (gx_d (gq_ok oL_law2 344 (.aload_n 3) rfl) rfl rfl) rfl (lv_at hl 1 rfl) ?_
    refine gl_callW (d := 101) (av := [.ref (gz_al sa Lc 0), .int (Int32.ofInt (xs (i + 1)).toInt), .int (Int32.ofInt (xs (i + 2)).toInt), .ref ou]) (rest := []) hK.1 hx hb hml hpp hown hG hX (show gl_lW ws0 118 yL_number (Cond.codeWith yL_number cL_number 5 (some .int) [(0, 10, 13, 19)]) 4 from ⟨(hwl _ (List.mem_of_getElem? (i := 51) rfl)), (hwl _ (List.mem_of_getElem? (i := 52) rfl)), (hwl _ (List.mem_of_getElem? (i := 53) rfl)), (hwl _ (List.mem_of_getElem? (i := 3) rfl)), by decide +kernel⟩) (w_number_x hK (show gx_lV ws0 RL 21 (yX12_number, cX12_number, 6, (some .int)) 2 from ⟨(hwl _ (List.mem_of_getElem? (i := 54) rfl)), (hwl _ (List.mem_of_getElem? (i := 55) rfl)), (hwl _ (List.mem_of_getElem? (i := 56) rfl)), (hwl _ (List.mem_of_getElem? (i := 57) rfl)), (hwl _ (List.mem_of_getElem? (i := 8) rfl)), by decide +kernel, Nat.le_of_ble_eq_true rfl⟩) (hwl _ (List.mem_of_getElem? (i := 26) rfl)) ((xs (i + 1)).toInt) ((xs (i + 2)).toInt) T9 hsh.1 H.size ou g Lc hLc) hl.1 ⟨by omega, by omega⟩ ⟨by omega, by omega⟩ (Nat.le_of_ble_eq_true rfl) hw (gx_d (gq_ok oL_law2 345 (.invokestatic 118) rfl) rfl rfl) (fun Lc' g' H1 locs1 hp hlen hg hw1 => ?_)
    have ha0 := gl_al0 (sa := sa) hp (by omega)
    refine lv_istore (lv' := [(5, .int 1), (4, .int (Int32.ofInt (i : Int))), (3, .ref ou), (2, .ref (gz_al sa Lr 0)), (1, .ref (gz_al sa Lc 0)), (0, .ref b)]) hx hb (gx_d (gq_ok oL_law2 348 (.istore 5) rfl) rfl rfl) hl (by decide) rfl (fun ls hl => ?_)
    have hw1 : gp_W D (fun q => s.heap.size ≤ q) s.heap (va_pl Lr (gz_f cy sa Lr (gr_sh ++ []) (gr_h Ir Jr)) ++ (gp_ou cy ou g' :: va_pl Lc' (gz_f cy sa Lc' sh (gc_h sh I J A)))) H1 locs1 := gp_W.comm (w1 := gp_ou cy ou g' :: va_pl Lc' _) hw1
    refine lv_aload_n hx hb (gx_d (gq_ok oL_law2 350 (.aload_n 2) rfl) rfl rfl) rfl (lv_at hl 3 rfl) ?_
    refine gl_arg (i := i) 1 hx hb hScr hbl hbA hw1.2.2.1 (lv_at hl 5 rfl) (lv_at hl 1 rfl) (by omega) hN (gx_d (gq_ok oL_law2 351 (.aload_n 0) rfl) rfl rfl) (gx_d (gq_ok oL_law2 352 (.iload 4) rfl) rfl rfl) (gx_d (gq_ok oL_law2 354 (.iconst 1) rfl) rfl rfl) (gx_d (gq_ok oL_law2 355 (.iadd) rfl) rfl rfl) (gx_d (gq_ok oL_law2 356 (.iaload) rfl) rfl rfl) ?_
    refine gl_arg (i := i) 2 hx hb hScr hbl hbA hw1.2.2.1 (lv_at hl 5 rfl) (lv_at hl 1 rfl) (by omega) hN (gx_d (gq_ok oL_law2 357 (.aload_n 0) rfl) rfl rfl) (gx_d (gq_ok oL_law2 358 (.iload 4) rfl) rfl rfl) (gx_d (gq_ok oL_law2 360 (.iconst 2) rfl) rfl rfl) (gx_d (gq_ok oL_law2 361 (.iadd) rfl) rfl rfl) (gx_d (gq_ok oL_law2 362 (.iaload) rfl) rfl rfl) ?_
    refine gl_callV (own := RL) (d := 1000) (As := [.inl ((xs (i + 1)).toInt), .inl ((xs (i + 2)).toInt)]) (rest := []) (ci := 13) hK hx hb hml hpp hown hG hX (show gx_lV ws0 RL 121 (yX13_number, cX13_number, 5, (some .int)) 2 from ⟨(hwl _ (List.mem_of_getElem? (i := 58) rfl)), (hwl _ (List.mem_of_getElem? (i := 59) rfl)), (hwl _ (List.mem_of_getElem? (i := 60) rfl)), (hwl _ (List.mem_of_getElem? (i := 61) rfl)), (hwl _ (List.mem_of_getElem? (i := 13) rfl)), by decide +kernel, Nat.le_of_ble_eq_true rfl⟩) rfl rfl ER hLr hl.1 ⟨by omega, by omega⟩ ⟨by omega, by omega⟩ (Nat.le_of_ble_eq_true rfl) hw1 (gx_d (gq_ok oL_law2 363 (.invokevirtual 121) rfl) rfl rfl) (fun Lr' H2 locs2 hp2 hlen2 hw2 => ?_)
    have ha2 := gl_al0 (sa := sa) hp2 (by rw [hLr]; exact gl_rs)
    show W _ _ _ _ _ _ _ _ _ _ _ _ _ _ _ (F0 m 366 ls [.int (Int32.ofInt zr)])
    refine lv_istore (lv' := [(6, .int (Int32.ofInt zr)), (5, .int 1), (4, .int (Int32.ofInt (i : Int))), (3, .ref ou), (2, .ref (gz_al sa Lr 0)), (1, .ref (gz_al sa Lc 0)), (0, .ref b)]) hx hb (gx_d (gq_ok oL_law2 366 (.istore 6) rfl) rfl rfl) hl (by decide) rfl (fun ls hl => ?_)
    refine lv_aload_n hx hb (gx_d (gq_ok oL_law2 368 (.aload_n 2) rfl) rfl rfl) rfl (lv_at hl 4 rfl) ?_
    refine gl_topr (y := gz_al sa Lr' 0) ha2.symm ?_
    obtain ⟨r8, h8, ET, rfl, rfl⟩ := r_thrown_b hwr htr [] Ir' Jr' hI'
    refine gl_callV (own := RL) (d := 1000) (As := []) (rest := []) (ci := 13) hK hx hb hml hpp hown hG hX (show gx_lV ws0 RL 122 (yX13_thrown, cX13_thrown, 1, (some .int)) 0 from ⟨(hwl _ (List.mem_of_getElem? (i := 62) rfl)), (hwl _ (List.mem_of_getElem? (i := 63) rfl)), (hwl _ (List.mem_of_getElem? (i := 64) rfl)), (hwl _ (List.mem_of_getElem? (i := 65) rfl)), (hwl _ (List.mem_of_getElem? (i := 13) rfl)), by decide +kernel, Nat.le_of_ble_eq_true rfl⟩) rfl rfl (gz_Ev_mono (d := 1) (by decide) ET) hlen2 hl.1 ⟨by omega, by omega⟩ ⟨by omega, by omega⟩ (Nat.le_of_ble_eq_true rfl) hw2 (gx_d (gq_ok oL_law2 369 (.invokevirtual 122) rfl) rfl rfl) (fun Lr2 H3 locs3 hp3 hlen3 hw3 => ?_)
    have ha3 := gl_al0 (sa := sa) hp3 (by rw [hlen2]; exact gl_rs)
    show W _ _ _ _ _ _ _ _ _ _ _ _ _ _ _ (F0 m 372 ls [.int (Int32.ofInt (Ir' 0 0))])
    rw [ht0]
    refine lv_iload hx hb (gx_d (gq_ok oL_law2 372 (.iload 5) rfl) rfl rfl) (lv_at hl 1 rfl) ?_
    refine lv_icmp_eq (tgt := 379) hx hb (gx_d (gq_ok oL_law2 374 (.if_icmp .eq 5) rfl) rfl rfl) (by decide) (fun _ => ?_) (fun c9 => absurd (by decide) c9)
    refine lv_iload hx hb (gx_d (gq_ok oL_law2 379 (.iload 5) rfl) rfl rfl) (lv_at hl 1 rfl) ?_
    refine lv_if_ne (tgt := 396) hx hb (gx_d (gq_ok oL_law2 381 (.ifCond .ne 15) rfl) rfl rfl) (by decide) (fun _ => ?_) (fun c9 => absurd c9 (by decide))
    refine lv_goto (tgt := 1246) hx hb (gx_d (gq_ok oL_law2 396 (.goto 850) rfl) rfl rfl) (by decide) ?_
    exact kk _ _ _ _ _ _ _ _ _ Lc' Lr2 _ _ _ _ _ _ P9 ⟨hlen, hlen3, ha0, (ha3.trans ha2)⟩ (gp_W.comm hw3) (lv_sub hl [2, 3, 4, 5, 6] rfl) (by omega) (by omega)
set_option maxHeartbeats 2000000 in
theorem law_sounds {p : Program} {l : Launch} {e : Env} {R : Room} {s : State} {m : MethodId} {below : List Frame} {meth : Method} {c : Code} {b N : Nat} {xs : Nat → Int32} {D : va_G} {cy : Nat → ClassId} {sa : Nat → Nat} {sv : Nat} {ws0 : List Cond} {tb : String → gz_T} {h0 m0 ou c0 s0 : Nat} {Q : State → Prop} {i n : Nat} (K : gl_A p l s m meth c b N xs D cy sa sv ws0 tb R c0 s0) (hn : n < 64) (hi : i + 6 ≤ N) (kk : gl_H p l e R s m below meth c b D cy sa h0 m0 ou c0 s0 Q i (n + 1) 1246) : gl_H p l e R s m below meth c b D cy sa h0 m0 ou c0 s0 Q i n 399 := by
  intro a s9 sh ro I J A Ir Jr Lc Lr g H locs ls cells slots hP hLL hw hl hce hsl
  obtain ⟨hLc, hLr, rfl, rfl⟩ := hLL
  obtain ⟨⟨hx, hb, hml, hown, hpp⟩, ⟨hScr, hN, hbl⟩, hG, hX, hK, ⟨⟨hws, htb, hwr, htr, hwc, hwn⟩, hwl⟩, hR1, hR2, hR3, hR4⟩ := id K
  have hbA : ¬ (fun q : Nat => s.heap.size ≤ q) b := Nat.not_le.mpr hbl
  have hsh := gp_sh hP
  have hbd := gp_bd hP
  obtain ⟨rr, Ir', Jr', ER, hS9⟩ := gp_sounds hws htb hwr htr [] hP hn ((xs (i + 1)).toInt) (gl_rng _)
  obtain ⟨zr, rfl⟩ := gl_int ER (by decide) rfl
  rcases hS9 with ⟨r9, I', J', E9, P9⟩ | ⟨T9, P9⟩
  · obtain ⟨z9, rfl⟩ := gl_int E9 (by decide) rfl
    refine lv_aload_n hx hb (gx_d (gq_ok oL_law2 399 (.aload_n 1) rfl) rfl rfl) rfl (lv_at hl 3 rfl) ?_
    refine gl_arg (i := i) 1 hx hb hScr hbl hbA hw.2.2.1 (lv_at hl 4 rfl) (lv_at hl 0 rfl) (by omega) hN (gx_d (gq_ok oL_law2 400 (.aload_n 0) rfl) rfl rfl) (gx_d (gq_ok oL_law2 401 (.iload 4) rfl) rfl rfl) (gx_d (gq_ok oL_law2 403 (.iconst 1) rfl) rfl rfl) (gx_d (gq_ok oL_law3 404 (.iadd) rfl) rfl rfl) (gx_d (gq_ok oL_law3 405 (.iaload) rfl) rfl rfl) ?_
    refine lv_aload_n hx hb (gx_d (gq_ok oL_law3 406 (.aload_n 3) rfl) rfl rfl) rfl (lv_at hl 1 rfl) ?_
    refine gl_callW (d := 101) (av := [.ref (gz_al sa Lc 0), .int (Int32.ofInt (xs (i + 1)).toInt), .ref ou]) (rest := []) hK.1 hx hb hml hpp hown hG hX (show gl_lW ws0 125 yL_sounds (Cond.codeWith yL_sounds cL_sounds 4 (some .int) [(0, 9, 12, 19)]) 3 from ⟨(hwl _ (List.mem_of_getElem? (i := 66) rfl)), (hwl _ (List.mem_of_getElem? (i := 67) rfl)), (hwl _ (List.mem_of_getElem? (i := 68) rfl)), (hwl _ (List.mem_of_getElem? (i := 3) rfl)), by decide +kernel⟩) (w_sounds_n hK (show gx_lV ws0 RL 25 (yX12_sounds, cX12_sounds, 4, (some .int)) 1 from ⟨(hwl _ (List.mem_of_getElem? (i := 69) rfl)), (hwl _ (List.mem_of_getElem? (i := 70) rfl)), (hwl _ (List.mem_of_getElem? (i := 71) rfl)), (hwl _ (List.mem_of_getElem? (i := 72) rfl)), (hwl _ (List.mem_of_getElem? (i := 8) rfl)), by decide +kernel, Nat.le_of_ble_eq_true rfl⟩) ((xs (i + 1)).toInt) z9 E9 hsh.1 H.size ou g Lc hLc) hl.1 ⟨by omega, by omega⟩ ⟨by omega, by omega⟩ (Nat.le_of_ble_eq_true rfl) hw (gx_d (gq_ok oL_law3 407 (.invokestatic 125) rfl) rfl rfl) (fun Lc' g' H1 locs1 hp hlen hg hw1 => ?_)
    have ha0 := gl_al0 (sa := sa) hp (by omega)
    refine lv_istore (lv' := [(5, .int 0), (4, .int (Int32.ofInt (i : Int))), (3, .ref ou), (2, .ref (gz_al sa Lr 0)), (1, .ref (gz_al sa Lc 0)), (0, .ref b)]) hx hb (gx_d (gq_ok oL_law3 410 (.istore 5) rfl) rfl rfl) hl (by decide) rfl (fun ls hl => ?_)
    have hw1 : gp_W D (fun q => s.heap.size ≤ q) s.heap (va_pl Lr (gz_f cy sa Lr (gr_sh ++ []) (gr_h Ir Jr)) ++ (gp_ou cy ou g' :: va_pl Lc' (gz_f cy sa Lc' sh (gc_h sh I' J' A)))) H1 locs1 := gp_W.comm (w1 := gp_ou cy ou g' :: va_pl Lc' _) hw1
    refine lv_aload_n hx hb (gx_d (gq_ok oL_law3 412 (.aload_n 2) rfl) rfl rfl) rfl (lv_at hl 3 rfl) ?_
    refine gl_arg (i := i) 1 hx hb hScr hbl hbA hw1.2.2.1 (lv_at hl 5 rfl) (lv_at hl 1 rfl) (by omega) hN (gx_d (gq_ok oL_law3 413 (.aload_n 0) rfl) rfl rfl) (gx_d (gq_ok oL_law3 414 (.iload 4) rfl) rfl rfl) (gx_d (gq_ok oL_law3 416 (.iconst 1) rfl) rfl rfl) (gx_d (gq_ok oL_law3 417 (.iadd) rfl) rfl rfl) (gx_d (gq_ok oL_law3 418 (.iaload) rfl) rfl rfl) ?_
    refine gl_callV (own := RL) (d := 1000) (As := [.inl ((xs (i + 1)).toInt)]) (rest := []) (ci := 13) hK hx hb hml hpp hown hG hX (show gx_lV ws0 RL 127 (yX13_sounds, cX13_sounds, 3, (some .int)) 1 from ⟨(hwl _ (List.mem_of_getElem? (i := 73) rfl)), (hwl _ (List.mem_of_getElem? (i := 74) rfl)), (hwl _ (List.mem_of_getElem? (i := 75) rfl)), (hwl _ (List.mem_of_getElem? (i := 76) rfl)), (hwl _ (List.mem_of_getElem? (i := 13) rfl)), by decide +kernel, Nat.le_of_ble_eq_true rfl⟩) rfl rfl ER hLr hl.1 ⟨by omega, by omega⟩ ⟨by omega, by omega⟩ (Nat.le_of_ble_eq_true rfl) hw1 (gx_d (gq_ok oL_law3 419 (.invokevirtual 127) rfl) rfl rfl) (fun Lr' H2 locs2 hp2 hlen2 hw2 => ?_)
    have ha2 := gl_al0 (sa := sa) hp2 (by rw [hLr]; exact gl_rs)
    show W _ _ _ _ _ _ _ _ _ _ _ _ _ _ _ (F0 m 422 ls [.int (Int32.ofInt zr)])
    refine lv_istore (lv' := [(6, .int (Int32.ofInt zr)), (5, .int 0), (4, .int (Int32.ofInt (i : Int))), (3, .ref ou), (2, .ref (gz_al sa Lr 0)), (1, .ref (gz_al sa Lc 0)), (0, .ref b)]) hx hb (gx_d (gq_ok oL_law3 422 (.istore 6) rfl) rfl rfl) hl (by decide) rfl (fun ls hl => ?_)
    refine lv_goto (tgt := 1246) hx hb (gx_d (gq_ok oL_law3 424 (.goto 822) rfl) rfl rfl) (by decide) ?_
    exact kk _ _ _ _ _ _ _ _ _ Lc' Lr' _ _ _ _ _ _ P9 ⟨hlen, hlen2, ha0, ha2⟩ (gp_W.comm hw2) (lv_sub hl [2, 3, 4, 5, 6] rfl) (by omega) (by omega)
  · skip
    refine lv_aload_n hx hb (gx_d (gq_ok oL_law2 399 (.aload_n 1) rfl) rfl rfl) rfl (lv_at hl 3 rfl) ?_
    refine gl_arg (i := i) 1 hx hb hScr hbl hbA hw.2.2.1 (lv_at hl 4 rfl) (lv_at hl 0 rfl) (by omega) hN (gx_d (gq_ok oL_law2 400 (.aload_n 0) rfl) rfl rfl) (gx_d (gq_ok oL_law2 401 (.iload 4) rfl) rfl rfl) (gx_d (gq_ok oL_law2 403 (.iconst 1) rfl) rfl rfl) (gx_d (gq_ok oL_law3 404 (.iadd) rfl) rfl rfl) (gx_d (gq_ok oL_law3 405 (.iaload) rfl) rfl rfl) ?_
    refine lv_aload_n hx hb (gx_d (gq_ok oL_law3 406 (.aload_n 3) rfl) rfl rfl) rfl (lv_at hl 1 rfl) ?_
    refine gl_callW (d := 101) (av := [.ref (gz_al sa Lc 0), .int (Int32.ofInt (xs (i + 1)).toInt), .ref ou]) (rest := []) hK.1 hx hb hml hpp hown hG hX (show gl_lW ws0 125 yL_sounds (Cond.codeWith yL_sounds cL_sounds 4 (some .int) [(0, 9, 12, 19)]) 3 from ⟨(hwl _ (List.mem_of_getElem? (i := 66) rfl)), (hwl _ (List.mem_of_getElem? (i := 67) rfl)), (hwl _ (List.mem_of_getElem? (i := 68) rfl)), (hwl _ (List.mem_of_getElem? (i := 3) rfl)), by decide +kernel⟩) (w_sounds_x hK (show gx_lV ws0 RL 25 (yX12_sounds, cX12_sounds, 4, (some .int)) 1 from ⟨(hwl _ (List.mem_of_getElem? (i := 69) rfl)), (hwl _ (List.mem_of_getElem? (i := 70) rfl)), (hwl _ (List.mem_of_getElem? (i := 71) rfl)), (hwl _ (List.mem_of_getElem? (i := 72) rfl)), (hwl _ (List.mem_of_getElem? (i := 8) rfl)), by decide +kernel, Nat.le_of_ble_eq_true rfl⟩) (hwl _ (List.mem_of_getElem? (i := 26) rfl)) ((xs (i + 1)).toInt) T9 hsh.1 H.size ou g Lc hLc) hl.1 ⟨by omega, by omega⟩ ⟨by omega, by omega⟩ (Nat.le_of_ble_eq_true rfl) hw (gx_d (gq_ok oL_law3 407 (.invokestatic 125) rfl) rfl rfl) (fun Lc' g' H1 locs1 hp hlen hg hw1 => ?_)
    have ha0 := gl_al0 (sa := sa) hp (by omega)
    refine lv_istore (lv' := [(5, .int 1), (4, .int (Int32.ofInt (i : Int))), (3, .ref ou), (2, .ref (gz_al sa Lr 0)), (1, .ref (gz_al sa Lc 0)), (0, .ref b)]) hx hb (gx_d (gq_ok oL_law3 410 (.istore 5) rfl) rfl rfl) hl (by decide) rfl (fun ls hl => ?_)
    have hw1 : gp_W D (fun q => s.heap.size ≤ q) s.heap (va_pl Lr (gz_f cy sa Lr (gr_sh ++ []) (gr_h Ir Jr)) ++ (gp_ou cy ou g' :: va_pl Lc' (gz_f cy sa Lc' sh (gc_h sh I J A)))) H1 locs1 := gp_W.comm (w1 := gp_ou cy ou g' :: va_pl Lc' _) hw1
    refine lv_aload_n hx hb (gx_d (gq_ok oL_law3 412 (.aload_n 2) rfl) rfl rfl) rfl (lv_at hl 3 rfl) ?_
    refine gl_arg (i := i) 1 hx hb hScr hbl hbA hw1.2.2.1 (lv_at hl 5 rfl) (lv_at hl 1 rfl) (by omega) hN (gx_d (gq_ok oL_law3 413 (.aload_n 0) rfl) rfl rfl) (gx_d (gq_ok oL_law3 414 (.iload 4) rfl) rfl rfl) (gx_d (gq_ok oL_law3 416 (.iconst 1) rfl) rfl rfl) (gx_d (gq_ok oL_law3 417 (.iadd) rfl) rfl rfl) (gx_d (gq_ok oL_law3 418 (.iaload) rfl) rfl rfl) ?_
    refine gl_callV (own := RL) (d := 1000) (As := [.inl ((xs (i + 1)).toInt)]) (rest := []) (ci := 13) hK hx hb hml hpp hown hG hX (show gx_lV ws0 RL 127 (yX13_sounds, cX13_sounds, 3, (some .int)) 1 from ⟨(hwl _ (List.mem_of_getElem? (i := 73) rfl)), (hwl _ (List.mem_of_getElem? (i := 74) rfl)), (hwl _ (List.mem_of_getElem? (i := 75) rfl)), (hwl _ (List.mem_of_getElem? (i := 76) rfl)), (hwl _ (List.mem_of_getElem? (i := 13) rfl)), by decide +kernel, Nat.le_of_ble_eq_true rfl⟩) rfl rfl ER hLr hl.1 ⟨by omega, by omega⟩ ⟨by omega, by omega⟩ (Nat.le_of_ble_eq_true rfl) hw1 (gx_d (gq_ok oL_law3 419 (.invokevirtual 127) rfl) rfl rfl) (fun Lr' H2 locs2 hp2 hlen2 hw2 => ?_)
    have ha2 := gl_al0 (sa := sa) hp2 (by rw [hLr]; exact gl_rs)
    show W _ _ _ _ _ _ _ _ _ _ _ _ _ _ _ (F0 m 422 ls [.int (Int32.ofInt zr)])
    refine lv_istore (lv' := [(6, .int (Int32.ofInt zr)), (5, .int 1), (4, .int (Int32.ofInt (i : Int))), (3, .ref ou), (2, .ref (gz_al sa Lr 0)), (1, .ref (gz_al sa Lc 0)), (0, .ref b)]) hx hb (gx_d (gq_ok oL_law3 422 (.istore 6) rfl) rfl rfl) hl (by decide) rfl (fun ls hl => ?_)
    refine lv_goto (tgt := 1246) hx hb (gx_d (gq_ok oL_law3 424 (.goto 822) rfl) rfl rfl) (by decide) ?_
    exact kk _ _ _ _ _ _ _ _ _ Lc' Lr' _ _ _ _ _ _ P9 ⟨hlen, hlen2, ha0, ha2⟩ (gp_W.comm hw2) (lv_sub hl [2, 3, 4, 5, 6] rfl) (by omega) (by omega)
set_option maxHeartbeats 2000000 in
theorem law_analyse {p : Program} {l : Launch} {e : Env} {R : Room} {s : State} {m : MethodId} {below : List Frame} {meth : Method} {c : Code} {b N : Nat} {xs : Nat → Int32} {D : va_G} {cy : Nat → ClassId} {sa : Nat → Nat} {sv : Nat} {ws0 : List Cond} {tb : String → gz_T} {h0 m0 ou c0 s0 : Nat} {Q : State → Prop} {i n : Nat} (K : gl_A p l s m meth c b N xs D cy sa sv ws0 tb R c0 s0) (hn : n < 64) (hi : i + 6 ≤ N) (kk : gl_H p l e R s m below meth c b D cy sa h0 m0 ou c0 s0 Q i (n + 1) 1246) : gl_H p l e R s m below meth c b D cy sa h0 m0 ou c0 s0 Q i n 427 := by
  intro a s9 sh ro I J A Ir Jr Lc Lr g H locs ls cells slots hP hLL hw hl hce hsl
  obtain ⟨hLc, hLr, rfl, rfl⟩ := hLL
  obtain ⟨⟨hx, hb, hml, hown, hpp⟩, ⟨hScr, hN, hbl⟩, hG, hX, hK, ⟨⟨hws, htb, hwr, htr, hwc, hwn⟩, hwl⟩, hR1, hR2, hR3, hR4⟩ := id K
  have hbA : ¬ (fun q : Nat => s.heap.size ≤ q) b := Nat.not_le.mpr hbl
  have hsh := gp_sh hP
  have hbd := gp_bd hP
  obtain ⟨rr, Ir', Jr', ER, hS9⟩ := gp_analyse hws htb hwr htr [] hP hn ((xs (i + 1)).toInt) (gl_rng _)
  obtain ⟨zr, rfl⟩ := gl_int ER (by decide) rfl
  rcases hS9 with ⟨r9, I', J', E9, P9⟩ | ⟨T9, P9⟩
  · obtain ⟨z9, rfl⟩ := gl_int E9 (by decide) rfl
    refine lv_aload_n hx hb (gx_d (gq_ok oL_law3 427 (.aload_n 1) rfl) rfl rfl) rfl (lv_at hl 3 rfl) ?_
    refine gl_arg (i := i) 1 hx hb hScr hbl hbA hw.2.2.1 (lv_at hl 4 rfl) (lv_at hl 0 rfl) (by omega) hN (gx_d (gq_ok oL_law3 428 (.aload_n 0) rfl) rfl rfl) (gx_d (gq_ok oL_law3 429 (.iload 4) rfl) rfl rfl) (gx_d (gq_ok oL_law3 431 (.iconst 1) rfl) rfl rfl) (gx_d (gq_ok oL_law3 432 (.iadd) rfl) rfl rfl) (gx_d (gq_ok oL_law3 433 (.iaload) rfl) rfl rfl) ?_
    refine lv_aload_n hx hb (gx_d (gq_ok oL_law3 434 (.aload_n 3) rfl) rfl rfl) rfl (lv_at hl 1 rfl) ?_
    refine gl_callW (d := 101) (av := [.ref (gz_al sa Lc 0), .int (Int32.ofInt (xs (i + 1)).toInt), .ref ou]) (rest := []) hK.1 hx hb hml hpp hown hG hX (show gl_lW ws0 128 yL_analyse (Cond.codeWith yL_analyse cL_analyse 4 (some .int) [(0, 9, 12, 19)]) 3 from ⟨(hwl _ (List.mem_of_getElem? (i := 77) rfl)), (hwl _ (List.mem_of_getElem? (i := 78) rfl)), (hwl _ (List.mem_of_getElem? (i := 79) rfl)), (hwl _ (List.mem_of_getElem? (i := 3) rfl)), by decide +kernel⟩) (w_analyse_n hK (show gx_lV ws0 RL 28 (yX12_analyse, cX12_analyse, 4, (some .int)) 1 from ⟨(hwl _ (List.mem_of_getElem? (i := 80) rfl)), (hwl _ (List.mem_of_getElem? (i := 81) rfl)), (hwl _ (List.mem_of_getElem? (i := 82) rfl)), (hwl _ (List.mem_of_getElem? (i := 83) rfl)), (hwl _ (List.mem_of_getElem? (i := 8) rfl)), by decide +kernel, Nat.le_of_ble_eq_true rfl⟩) ((xs (i + 1)).toInt) z9 E9 hsh.1 H.size ou g Lc hLc) hl.1 ⟨by omega, by omega⟩ ⟨by omega, by omega⟩ (Nat.le_of_ble_eq_true rfl) hw (gx_d (gq_ok oL_law3 435 (.invokestatic 128) rfl) rfl rfl) (fun Lc' g' H1 locs1 hp hlen hg hw1 => ?_)
    have ha0 := gl_al0 (sa := sa) hp (by omega)
    refine lv_istore (lv' := [(5, .int 0), (4, .int (Int32.ofInt (i : Int))), (3, .ref ou), (2, .ref (gz_al sa Lr 0)), (1, .ref (gz_al sa Lc 0)), (0, .ref b)]) hx hb (gx_d (gq_ok oL_law3 438 (.istore 5) rfl) rfl rfl) hl (by decide) rfl (fun ls hl => ?_)
    have hw1 : gp_W D (fun q => s.heap.size ≤ q) s.heap (va_pl Lr (gz_f cy sa Lr (gr_sh ++ []) (gr_h Ir Jr)) ++ (gp_ou cy ou g' :: va_pl Lc' (gz_f cy sa Lc' sh (gc_h sh I' J' A)))) H1 locs1 := gp_W.comm (w1 := gp_ou cy ou g' :: va_pl Lc' _) hw1
    refine lv_aload_n hx hb (gx_d (gq_ok oL_law3 440 (.aload_n 2) rfl) rfl rfl) rfl (lv_at hl 3 rfl) ?_
    refine gl_arg (i := i) 1 hx hb hScr hbl hbA hw1.2.2.1 (lv_at hl 5 rfl) (lv_at hl 1 rfl) (by omega) hN (gx_d (gq_ok oL_law3 441 (.aload_n 0) rfl) rfl rfl) (gx_d (gq_ok oL_law3 442 (.iload 4) rfl) rfl rfl) (gx_d (gq_ok oL_law3 444 (.iconst 1) rfl) rfl rfl) (gx_d (gq_ok oL_law3 445 (.iadd) rfl) rfl rfl) (gx_d (gq_ok oL_law3 446 (.iaload) rfl) rfl rfl) ?_
    refine gl_callV (own := RL) (d := 1000) (As := [.inl ((xs (i + 1)).toInt)]) (rest := []) (ci := 13) hK hx hb hml hpp hown hG hX (show gx_lV ws0 RL 130 (yX13_analyse, cX13_analyse, 5, (some .int)) 1 from ⟨(hwl _ (List.mem_of_getElem? (i := 84) rfl)), (hwl _ (List.mem_of_getElem? (i := 85) rfl)), (hwl _ (List.mem_of_getElem? (i := 86) rfl)), (hwl _ (List.mem_of_getElem? (i := 87) rfl)), (hwl _ (List.mem_of_getElem? (i := 13) rfl)), by decide +kernel, Nat.le_of_ble_eq_true rfl⟩) rfl rfl ER hLr hl.1 ⟨by omega, by omega⟩ ⟨by omega, by omega⟩ (Nat.le_of_ble_eq_true rfl) hw1 (gx_d (gq_ok oL_law3 447 (.invokevirtual 130) rfl) rfl rfl) (fun Lr' H2 locs2 hp2 hlen2 hw2 => ?_)
    have ha2 := gl_al0 (sa := sa) hp2 (by rw [hLr]; exact gl_rs)
    show W _ _ _ _ _ _ _ _ _ _ _ _ _ _ _ (F0 m 450 ls [.int (Int32.ofInt zr)])
    refine lv_istore (lv' := [(6, .int (Int32.ofInt zr)), (5, .int 0), (4, .int (Int32.ofInt (i : Int))), (3, .ref ou), (2, .ref (gz_al sa Lr 0)), (1, .ref (gz_al sa Lc 0)), (0, .ref b)]) hx hb (gx_d (gq_ok oL_law3 450 (.istore 6) rfl) rfl rfl) hl (by decide) rfl (fun ls hl => ?_)
    refine lv_goto (tgt := 1246) hx hb (gx_d (gq_ok oL_law3 452 (.goto 794) rfl) rfl rfl) (by decide) ?_
    exact kk _ _ _ _ _ _ _ _ _ Lc' Lr' _ _ _ _ _ _ P9 ⟨hlen, hlen2, ha0, ha2⟩ (gp_W.comm hw2) (lv_sub hl [2, 3, 4, 5, 6] rfl) (by omega) (by omega)
  · skip
    refine lv_aload_n hx hb (gx_d (gq_ok oL_law3 427 (.aload_n 1) rfl) rfl rfl) rfl (lv_at hl 3 rfl) ?_
    refine gl_arg (i := i) 1 hx hb hScr hbl hbA hw.2.2.1 (lv_at hl 4 rfl) (lv_at hl 0 rfl) (by omega) hN (gx_d (gq_ok oL_law3 428 (.aload_n 0) rfl) rfl rfl) (gx_d (gq_ok oL_law3 429 (.iload 4) rfl) rfl rfl) (gx_d (gq_ok oL_law3 431 (.iconst 1) rfl) rfl rfl) (gx_d (gq_ok oL_law3 432 (.iadd) rfl) rfl rfl) (gx_d (gq_ok oL_law3 433 (.iaload) rfl) rfl rfl) ?_
    refine lv_aload_n hx hb (gx_d (gq_ok oL_law3 434 (.aload_n 3) rfl) rfl rfl) rfl (lv_at hl 1 rfl) ?_
    refine gl_callW (d := 101) (av := [.ref (gz_al sa Lc 0), .int (Int32.ofInt (xs (i + 1)).toInt), .ref ou]) (rest := []) hK.1 hx hb hml hpp hown hG hX (show gl_lW ws0 128 yL_analyse (Cond.codeWith yL_analyse cL_analyse 4 (some .int) [(0, 9, 12, 19)]) 3 from ⟨(hwl _ (List.mem_of_getElem? (i := 77) rfl)), (hwl _ (List.mem_of_getElem? (i := 78) rfl)), (hwl _ (List.mem_of_getElem? (i := 79) rfl)), (hwl _ (List.mem_of_getElem? (i := 3) rfl)), by decide +kernel⟩) (w_analyse_x hK (show gx_lV ws0 RL 28 (yX12_analyse, cX12_analyse, 4, (some .int)) 1 from ⟨(hwl _ (List.mem_of_getElem? (i := 80) rfl)), (hwl _ (List.mem_of_getElem? (i := 81) rfl)), (hwl _ (List.mem_of_getElem? (i := 82) rfl)), (hwl _ (List.mem_of_getElem? (i := 83) rfl)), (hwl _ (List.mem_of_getElem? (i := 8) rfl)), by decide +kernel, Nat.le_of_ble_eq_true rfl⟩) (hwl _ (List.mem_of_getElem? (i := 26) rfl)) ((xs (i + 1)).toInt) T9 hsh.1 H.size ou g Lc hLc) hl.1 ⟨by omega, by omega⟩ ⟨by omega, by omega⟩ (Nat.le_of_ble_eq_true rfl) hw (gx_d (gq_ok oL_law3 435 (.invokestatic 128) rfl) rfl rfl) (fun Lc' g' H1 locs1 hp hlen hg hw1 => ?_)
    have ha0 := gl_al0 (sa := sa) hp (by omega)
    refine lv_istore (lv' := [(5, .int 1), (4, .int (Int32.ofInt (i : Int))), (3, .ref ou), (2, .ref (gz_al sa Lr 0)), (1, .ref (gz_al sa Lc 0)), (0, .ref b)]) hx hb (gx_d (gq_ok oL_law3 438 (.istore 5) rfl) rfl rfl) hl (by decide) rfl (fun ls hl => ?_)
    have hw1 : gp_W D (fun q => s.heap.size ≤ q) s.heap (va_pl Lr (gz_f cy sa Lr (gr_sh ++ []) (gr_h Ir Jr)) ++ (gp_ou cy ou g' :: va_pl Lc' (gz_f cy sa Lc' sh (gc_h sh I J A)))) H1 locs1 := gp_W.comm (w1 := gp_ou cy ou g' :: va_pl Lc' _) hw1
    refine lv_aload_n hx hb (gx_d (gq_ok oL_law3 440 (.aload_n 2) rfl) rfl rfl) rfl (lv_at hl 3 rfl) ?_
    refine gl_arg (i := i) 1 hx hb hScr hbl hbA hw1.2.2.1 (lv_at hl 5 rfl) (lv_at hl 1 rfl) (by omega) hN (gx_d (gq_ok oL_law3 441 (.aload_n 0) rfl) rfl rfl) (gx_d (gq_ok oL_law3 442 (.iload 4) rfl) rfl rfl) (gx_d (gq_ok oL_law3 444 (.iconst 1) rfl) rfl rfl) (gx_d (gq_ok oL_law3 445 (.iadd) rfl) rfl rfl) (gx_d (gq_ok oL_law3 446 (.iaload) rfl) rfl rfl) ?_
    refine gl_callV (own := RL) (d := 1000) (As := [.inl ((xs (i + 1)).toInt)]) (rest := []) (ci := 13) hK hx hb hml hpp hown hG hX (show gx_lV ws0 RL 130 (yX13_analyse, cX13_analyse, 5, (some .int)) 1 from ⟨(hwl _ (List.mem_of_getElem? (i := 84) rfl)), (hwl _ (List.mem_of_getElem? (i := 85) rfl)), (hwl _ (List.mem_of_getElem? (i := 86) rfl)), (hwl _ (List.mem_of_getElem? (i := 87) rfl)), (hwl _ (List.mem_of_getElem? (i := 13) rfl)), by decide +kernel, Nat.le_of_ble_eq_true rfl⟩) rfl rfl ER hLr hl.1 ⟨by omega, by omega⟩ ⟨by omega, by omega⟩ (Nat.le_of_ble_eq_true rfl) hw1 (gx_d (gq_ok oL_law3 447 (.invokevirtual 130) rfl) rfl rfl) (fun Lr' H2 locs2 hp2 hlen2 hw2 => ?_)
    have ha2 := gl_al0 (sa := sa) hp2 (by rw [hLr]; exact gl_rs)
    show W _ _ _ _ _ _ _ _ _ _ _ _ _ _ _ (F0 m 450 ls [.int (Int32.ofInt zr)])
    refine lv_istore (lv' := [(6, .int (Int32.ofInt zr)), (5, .int 1), (4, .int (Int32.ofInt (i : Int))), (3, .ref ou), (2, .ref (gz_al sa Lr 0)), (1, .ref (gz_al sa Lc 0)), (0, .ref b)]) hx hb (gx_d (gq_ok oL_law3 450 (.istore 6) rfl) rfl rfl) hl (by decide) rfl (fun ls hl => ?_)
    refine lv_goto (tgt := 1246) hx hb (gx_d (gq_ok oL_law3 452 (.goto 794) rfl) rfl rfl) (by decide) ?_
    exact kk _ _ _ _ _ _ _ _ _ Lc' Lr' _ _ _ _ _ _ P9 ⟨hlen, hlen2, ha0, ha2⟩ (gp_W.comm hw2) (lv_sub hl [2, 3, 4, 5, 6] rfl) (by omega) (by omega)
