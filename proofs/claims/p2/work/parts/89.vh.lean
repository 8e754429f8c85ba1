def gc_lr (n q : Nat) (ro : Nat → Nat) (l : List Nat) : Nat := if q < n then ro q else gr_nth l (q - n)
theorem gc_lr_lt {n q : Nat} {ro : Nat → Nat} {l : List Nat} (h : q < n) : gc_lr n q ro l = ro q := if_pos h
theorem gc_lr_ge {n d : Nat} {ro : Nat → Nat} {l : List Nat} : gc_lr n (n + d) ro l = gr_nth l d := by
  unfold gc_lr
  rw [if_neg (by omega), Nat.add_sub_cancel_left]
theorem gc_Inv_lr {ro : Nat → Nat} {sh : gz_Sh} {I : gr_I} {J : gr_J} {A : gc_A} {l : List Nat} (hI : gc_Inv ro I) (hz : gc_Z sh I J A) (h0 : ∀ d k, gc_lo (gr_nth l d) k ≤ 0 ∧ 0 ≤ gc_hi (gr_nth l d) k) : gc_Inv (fun q => gc_lr sh.length q ro l) I := fun q k => by
  by_cases e : q < sh.length
  · show gc_lo (gc_lr sh.length q ro l) k ≤ I q k ∧ I q k ≤ gc_hi (gc_lr sh.length q ro l) k
    rw [gc_lr_lt e]
    exact hI q k
  · show gc_lo (gc_lr sh.length q ro l) k ≤ I q k ∧ I q k ≤ gc_hi (gc_lr sh.length q ro l) k
    obtain ⟨d, rfl⟩ : ∃ d, q = sh.length + d := ⟨q - sh.length, by omega⟩
    rw [gc_lr_ge, (hz (sh.length + d) (by omega) k).1]
    exact h0 d k
theorem gc_linS8 {sh : gz_Sh} {ro : Nat → Nat} {A : gc_A} {p : Nat} (h : gc_isLin sh ro A p) : sh[p + 8]? = some (true, 1, 18) := by
  obtain ⟨b0, b1, b2, b3, b4, b5, b6, b7, b8, b9, b10, b11, b12, b13, b14, b15, b16, b17, b18, b19, b20, b21, b22, b23, b24, b25, b26, b27, b28, b29, b30, b31, b32, b33, b34⟩ := h
  exact b32
theorem gc_z0 : ∀ k, gc_lo 0 k ≤ 0 ∧ 0 ≤ gc_hi 0 k := fun k => ⟨show (-2147483648) ≤ (0 : Int) from by decide, show (0 : Int) ≤ 2147483647 from by decide⟩
theorem gc_z13 : ∀ k, gc_lo 13 k ≤ 0 ∧ 0 ≤ gc_hi 13 k := fun k => ⟨show 0 ≤ (0 : Int) from by decide, show (0 : Int) ≤ 16777215 from by decide⟩
theorem gc_z14 : ∀ k, gc_lo 14 k ≤ 0 ∧ 0 ≤ gc_hi 14 k := fun k => match k with
  | 0 => ⟨by decide, by decide⟩
  | 1 => ⟨by decide, by decide⟩
  | 2 => ⟨by decide, by decide⟩
  | 3 => ⟨by decide, by decide⟩
  | 4 => ⟨by decide, by decide⟩
  | 5 => ⟨by decide, by decide⟩
  | 6 => ⟨by decide, by decide⟩
  | 7 => ⟨by decide, by decide⟩
  | 8 => ⟨by decide, by decide⟩
  | 9 => ⟨by decide, by decide⟩
  | 10 => ⟨by decide, by decide⟩
  | 11 => ⟨by decide, by decide⟩
  | 12 => ⟨by decide, by decide⟩
  | 13 => ⟨by decide, by decide⟩
  | 14 => ⟨by decide, by decide⟩
  | 15 => ⟨by decide, by decide⟩
  | _ + 16 => ⟨show (-2147483648) ≤ (0 : Int) from by decide, show (0 : Int) ≤ 2147483647 from by decide⟩
theorem gc_z15 : ∀ k, gc_lo 15 k ≤ 0 ∧ 0 ≤ gc_hi 15 k := fun k => ⟨show (-1) ≤ (0 : Int) from by decide, show (0 : Int) ≤ 3 from by decide⟩
theorem gc_z16 : ∀ k, gc_lo 16 k ≤ 0 ∧ 0 ≤ gc_hi 16 k := fun k => ⟨show 0 ≤ (0 : Int) from by decide, show (0 : Int) ≤ 2000 from by decide⟩
theorem gc_z17 : ∀ k, gc_lo 17 k ≤ 0 ∧ 0 ≤ gc_hi 17 k := fun k => ⟨show 0 ≤ (0 : Int) from by decide, show (0 : Int) ≤ 24 from by decide⟩
theorem gc_z18 : ∀ k, gc_lo 18 k ≤ 0 ∧ 0 ≤ gc_hi 18 k := fun k => ⟨show 0 ≤ (0 : Int) from by decide, show (0 : Int) ≤ 3 from by decide⟩
theorem gc_z19 : ∀ k, gc_lo 19 k ≤ 0 ∧ 0 ≤ gc_hi 19 k := fun k => ⟨show (-1) ≤ (0 : Int) from by decide, show (0 : Int) ≤ 3 from by decide⟩
theorem gc_z20 : ∀ k, gc_lo 20 k ≤ 0 ∧ 0 ≤ gc_hi 20 k := fun k => by
  have h : k % 3 < 3 := Nat.mod_lt _ (by decide)
  rw [show gc_lo 20 k = gc_lo 20 (k % 3) from gc_at_mod (x := gc_np gc_rl 20) (m := 2) rfl rfl, show gc_hi 20 k = gc_hi 20 (k % 3) from gc_at_mod (x := gc_np gc_rh 20) (m := 2) rfl rfl]
  revert h
  generalize k % 3 = c
  intro h
  match c, h with
  | 0, _ => exact ⟨by decide, by decide⟩
  | 1, _ => exact ⟨by decide, by decide⟩
  | 2, _ => exact ⟨by decide, by decide⟩
  | _ + 3, h => exact absurd h (by omega)
theorem gc_z21 : ∀ k, gc_lo 21 k ≤ 0 ∧ 0 ≤ gc_hi 21 k := fun k => by
  have h : k % 3 < 3 := Nat.mod_lt _ (by decide)
  rw [show gc_lo 21 k = gc_lo 21 (k % 3) from gc_at_mod (x := gc_np gc_rl 21) (m := 2) rfl rfl, show gc_hi 21 k = gc_hi 21 (k % 3) from gc_at_mod (x := gc_np gc_rh 21) (m := 2) rfl rfl]
  revert h
  generalize k % 3 = c
  intro h
  match c, h with
  | 0, _ => exact ⟨by decide, by decide⟩
  | 1, _ => exact ⟨by decide, by decide⟩
  | 2, _ => exact ⟨by decide, by decide⟩
  | _ + 3, h => exact absurd h (by omega)
def gc_roL : List Nat := [14, 15, 16, 17, 18, 13, 19, 20, 21]
theorem gc_roL0 : ∀ d k, gc_lo (gr_nth gc_roL d) k ≤ 0 ∧ 0 ≤ gc_hi (gr_nth gc_roL d) k := fun d k => match d with
  | 0 => gc_z14 k
  | 1 => gc_z15 k
  | 2 => gc_z16 k
  | 3 => gc_z17 k
  | 4 => gc_z18 k
  | 5 => gc_z13 k
  | 6 => gc_z19 k
  | 7 => gc_z20 k
  | 8 => gc_z21 k
  | _ + 9 => gc_z0 k
def gc_RL (B : Int) (sh : gz_Sh) (ro : Nat → Nat) (I : gr_I) (J : gr_J) (A : gc_A) (t : Nat) (z : Int) (a s : Nat) (sh' : gz_Sh) (ro' : Nat → Nat) (I' : gr_I) (J' : gr_J) (A' : gc_A) : Prop := (0 ≤ z ∧ z ≤ 1) ∧ (a ≤ 9 ∧ s ≤ 82) ∧ sh'.length ≤ sh.length + 9 ∧ gc_ext sh ro A sh' ro' A' ∧ gc_Inv ro' I' ∧ gc_OK sh' I' J' A' ∧ gc_LT I' ∧ gc_TK I' ∧ (∀ q j : Nat, q < sh.length → ((q = 39 ∧ j = 3) ∨ (q = 39 ∧ j = 4) ∨ (q = 23 ∧ j = 5) ∨ (q = 23 ∧ j = 6) ∨ (q = 23 ∧ j = 7) ∨ (q = 23 ∧ j = 8) ∨ (q = 1 ∧ j = 17) ∨ (q = 1 ∧ j = 18) ∨ q = 20 ∨ (q = 39 ∧ j = 6) ∨ (q = 39 ∧ j = 7) ∨ (q = t ∧ j = 13)) ∨ I' q j = I q j) ∧ (∀ q j : Nat, q < sh.length → ((q = 23 ∧ j = 9)) ∨ J' q j = J q j) ∧ (I' 23 1 = I 23 1 ∧ I 23 5 ≤ I' 23 5 ∧ I' 1 17 + I' 23 1 ≤ B + I' 23 5) ∧ ((z = 0 ∧ I' t 13 = I t 13 ∧ ∀ q k, q < sh.length → A' q k = A q k) ∨ (z = 1 ∧ I' t 13 = I t 13 + 1 ∧ I t 13 ≤ 383 ∧ (∀ q k, q < sh.length → ¬ (q = t + 16 ∧ k = Int.toNat (I t 13)) → A' q k = A q k) ∧ ∃ L, 144 ≤ L ∧ sh.length ≤ L ∧ A' (t + 16) (Int.toNat (I t 13)) = some L ∧ gc_isLin sh' ro' A' L ∧ gc_LI L (I' L 4) I' ∧ gc_CT L I' ∧ gc_UN L I' ∧ (1 ≤ I' L 4 ∧ 0 ≤ I' L 1 ∧ I' L 1 < I' 4 1 ∧ I' L 0 = I t 13 ∧ I' 12 (Int.toNat (I' L 1)) ≤ I' L 8)))
theorem gc_Yaas {E : gv_E} {Q : gz_S → Nat → Nat → Prop} {pc i w n m : Nat} {j : Int} {lv : List (Nat × gz_V)} {st : List gz_V} {sh : gz_Sh} {I : gr_I} {J : gr_J} {A : gc_A} (hD : gv_D E) (hi : E.2.2.2.2.2.2 pc = some .aastore) (hs : sh[i]? = some (true, 4, n)) (hw : sh[w]? = some (false, 3, m)) (hb : i < 1000000 ∧ w < 1000000 ∧ n < 2147483648) (hj : 0 ≤ j ∧ j < (n : Int)) (kk : gv_Y E Q (pc + 1, lv, st, sh, gc_h sh I J (gc_u A i (Int.toNat j) (some w)))) : gv_Y E Q (pc, lv, .inr (.inr (some w)) :: .inl j :: .inr (.inr (some i)) :: st, sh, gc_h sh I J A) := by
  refine gv_Yone (u' := (pc + 1, lv, st, sh, gz_up (gc_h sh I J A) i (Int.toNat j) (.inr (.inr (some w))))) (a := 0) (s := 0) (Or.inr (Or.inr (Or.inr (Or.inr (Or.inr (Or.inr (Or.inr (Or.inr (Or.inl (Or.inr (Or.inr (Or.inr (Or.inl ⟨i, w, 4, n, m, j, st, hD pc _ hi, rfl, hb.1, hb.2.1, hs, hb.2.2, hj.1, hj.2, Or.inl ⟨rfl, hw⟩, rfl, rfl, rfl⟩))))))))))))) ?_
  rw [gc_hUA hs rfl]
  obtain ⟨n9, v, a, s, g, q⟩ := kk
  exact ⟨n9, v, a, s, g, (show Q v (0 + a) (0 + s) from by rw [Nat.zero_add, Nat.zero_add]; exact q)⟩
set_option maxHeartbeats 4000000 in
set_option maxRecDepth 100000 in
theorem e_X6_readLin {ws0 : List Cond} {tb : String → gz_T} (hw : gc_Wn ws0) (hws : gc_Ws ws0) (htb : gc_tbs tb) (sh : gz_Sh) (ro : Nat → Nat) (I : gr_I) (J : gr_J) (A : gc_A) (hI : gc_Inv ro I) (t : Nat) (B : Int) (hb : gc_Base sh ro A) (h_t : gc_isTongue sh ro A t) (G_t : 144 ≤ t) (x0 : B ≤ 1280 ∧ I 1 17 + I 23 1 ≤ B + I 23 5) (x1 : gc_Ls sh ro A t I) (x2 : I 39 2 = (t : Int)) (KLT_I : gc_LT I) (KTK_I : gc_TK I) (hok : gc_OK sh I J A) (hlen : sh.length + 9 ≤ 1000000) : ∃ (z : Int) (a s : Nat) (sh' : gz_Sh) (ro' : Nat → Nat) (I' : gr_I) (J' : gr_J) (A' : gc_A), gz_Ev ws0 tb 9 (yX6_readLin, cX6_readLin, 4, (some .boolean)) [.inr (.inr (some 39))] sh (gc_h sh I J A) (some (.inl z)) sh' (gc_h sh' I' J' A') a s ∧ gc_RL B sh ro I J A t z a s sh' ro' I' J' A' := by
  have h144 := gc_Base_len hb
  have hD : gv_D (gc_E6 ws0 tb 8 (yX6_readLin, cX6_readLin, 4, (some .boolean)) kX6_readLin) := gq_ok oX6_readLin
  suffices hY : gv_Y (gc_E6 ws0 tb 8 (yX6_readLin, cX6_readLin, 4, (some .boolean)) kX6_readLin) (fun v a s => ∃ (z : Int) (sh' : gz_Sh) (ro' : Nat → Nat) (I' : gr_I) (J' : gr_J) (A' : gc_A), gz_fin cX6_readLin (some .boolean) v (some (.inl z)) ∧ v.2.2.2.1 = sh' ∧ v.2.2.2.2 = gc_h sh' I' J' A' ∧ gc_RL B sh ro I J A t z a s sh' ro' I' J' A') (0, [(0, .inr (.inr (some 39)))], [], sh, gc_h sh I J A) by
    obtain ⟨n, v, a, s, h1, z, sh', ro', I', J', A', h2, h3, h4, h5⟩ := hY
    refine ⟨z, a, s, sh', ro', I', J', A', Or.inr (Or.inr ⟨by decide, Nat.le_of_ble_eq_true rfl, n, v, ?_, h2, h3, h4⟩), h5⟩
    show gz_to (gz_do ws0 RX6 (tb RX6) cX6_readLin 4 (gz_Ev ws0 tb 8)) n _ v a s
    rw [gc_tb6 htb]
    exact h1
  obtain ⟨L, hL⟩ : ∃ L, sh.length = L := ⟨_, rfl⟩
  have okh : ∀ (I9 : gr_I) (J9 : gr_J), (∀ q j : Nat, ((q = 39 ∧ j = 3) ∨ (q = 39 ∧ j = 4) ∨ (q = 23 ∧ j = 5) ∨ (q = 23 ∧ j = 6) ∨ (q = 23 ∧ j = 7) ∨ (q = 23 ∧ j = 8) ∨ (q = 1 ∧ j = 17) ∨ (q = 1 ∧ j = 18) ∨ q = 20) ∨ I9 q j = I q j) → (∀ q j : Nat, ((q = 23 ∧ j = 9)) ∨ J9 q j = J q j) → gc_OK sh I9 J9 A := fun I9 J9 f g => gc_OK_fr hok (fun q j => (f q j).imp (fun h => by
      rcases h with ⟨rfl, rfl⟩ | ⟨rfl, rfl⟩ | ⟨rfl, rfl⟩ | ⟨rfl, rfl⟩ | ⟨rfl, rfl⟩ | ⟨rfl, rfl⟩ | ⟨rfl, rfl⟩ | ⟨rfl, rfl⟩ | rfl
      · exact ⟨by omega, gc_tyx (gc_bS hb (p := 39) rfl)⟩
      · exact ⟨by omega, gc_tyx (gc_bS hb (p := 39) rfl)⟩
      · exact ⟨by omega, gc_tyx (gc_bS hb (p := 23) rfl)⟩
      · exact ⟨by omega, gc_tyx (gc_bS hb (p := 23) rfl)⟩
      · exact ⟨by omega, gc_tyx (gc_bS hb (p := 23) rfl)⟩
      · exact ⟨by omega, gc_tyx (gc_bS hb (p := 23) rfl)⟩
      · exact ⟨by omega, gc_tyx (gc_bS hb (p := 1) rfl)⟩
      · exact ⟨by omega, gc_tyx (gc_bS hb (p := 1) rfl)⟩
      · exact ⟨by omega, gc_tyx (gc_bS hb (p := 20) rfl)⟩
      ) id) (fun q j => (g q j).imp (fun h => by omega) id)
  have injH : ∀ q j : Nat, ((q = 39 ∧ j = 3) ∨ (q = 39 ∧ j = 4) ∨ (q = 23 ∧ j = 5) ∨ (q = 23 ∧ j = 6) ∨ (q = 23 ∧ j = 7) ∨ (q = 23 ∧ j = 8) ∨ (q = 1 ∧ j = 17) ∨ (q = 1 ∧ j = 18) ∨ q = 20) → ((q = 39 ∧ j = 3) ∨ (q = 39 ∧ j = 4) ∨ (q = 23 ∧ j = 5) ∨ (q = 23 ∧ j = 6) ∨ (q = 23 ∧ j = 7) ∨ (q = 23 ∧ j = 8) ∨ (q = 1 ∧ j = 17) ∨ (q = 1 ∧ j = 18) ∨ q = 20 ∨ (q = 39 ∧ j = 6) ∨ (q = 39 ∧ j = 7) ∨ (q = t ∧ j = 13)) := fun q j h => by
    rcases h with ⟨rfl, rfl⟩ | ⟨rfl, rfl⟩ | ⟨rfl, rfl⟩ | ⟨rfl, rfl⟩ | ⟨rfl, rfl⟩ | ⟨rfl, rfl⟩ | ⟨rfl, rfl⟩ | ⟨rfl, rfl⟩ | rfl
    · exact (Or.inl ⟨rfl, rfl⟩)
    · exact (Or.inr (Or.inl ⟨rfl, rfl⟩))
    · exact (Or.inr (Or.inr (Or.inl ⟨rfl, rfl⟩)))
    · exact (Or.inr (Or.inr (Or.inr (Or.inl ⟨rfl, rfl⟩))))
    · exact (Or.inr (Or.inr (Or.inr (Or.inr (Or.inl ⟨rfl, rfl⟩)))))
    · exact (Or.inr (Or.inr (Or.inr (Or.inr (Or.inr (Or.inl ⟨rfl, rfl⟩))))))
    · exact (Or.inr (Or.inr (Or.inr (Or.inr (Or.inr (Or.inr (Or.inl ⟨rfl, rfl⟩)))))))
    · exact (Or.inr (Or.inr (Or.inr (Or.inr (Or.inr (Or.inr (Or.inr (Or.inl ⟨rfl, rfl⟩))))))))
    · exact (Or.inr (Or.inr (Or.inr (Or.inr (Or.inr (Or.inr (Or.inr (Or.inr (Or.inl rfl)))))))))
  refine gv_YofX (d_X6_readLin_h hws htb sh ro I J A hI B hb x0 KLT_I KTK_I (fun v h => ?_) (fun I8 J9 v1 hI8 F8 F9 k1 k2 m => ?_))
  · obtain ⟨r, hf, hs9, I', J', e1, e2, e3, e4, e5, e6, z, rfl, z0, z1, p0, p1, p2, p3⟩ := h
    exact gv_Yend ⟨z, sh, ro, I', J', A, hf, hs9, e1, ⟨z0, z1⟩, ⟨by decide, by decide⟩, by omega, gc_x_refl, e2, okh I' J' e3 e4, e5, e6, fun q j _ => (e3 q j).imp (injH q j) id, fun q j _ => e4 q j, ⟨p0, p1, p2.2⟩, Or.inl ⟨p3, (e3 t 13).resolve_left (by omega), fun q k _ => rfl⟩⟩
  obtain ⟨m0, m1, m2, m3, m4, m5⟩ := m
  have ok8 := okh I8 J9 F8 F9
  refine gv_Xz ?_
  refine gc_Ynew hD (ix := 359) (ci := 3) (n := 16) (r := L) (C := RX3) (T := TX3) (ty := tyX3) rfl rfl (gc_lN3 hw (hw.1 _ (List.mem_of_getElem? (i := 20) rfl))) (by omega) ok8 (gc_okc (Or.inl (by omega)) (gc_okc trivial gc_ok0)) gc_ok0 gc_dy3 hL.symm ?_
  have ok9 := gc_OKx (x := (false, 3, 16)) ok8 (gc_nth2 (l := gc_nl gc_ts 3) rfl)
  have ln0 : (sh ++ [(false, 3, 16)]).length = L + 1 := gc_len1 hL
  have S0_0 := gc_gl (x := (false, 3, 16)) (sh := sh) (p := L) hL.symm
  refine gv_lift (fun hk => gv_run 1 true hD (pc' := 28) (lv' := [(0, .inr (.inr (some 39))), (1, .inl v1)]) (st' := [.inr (.inr (some L)), .inr (.inr (some L))]) (h' := gc_h (sh ++ [(false, 3, 16)]) I8 J9 A) (C := (True ∧ True)) rfl ⟨trivial, trivial⟩ hk) ?_
  refine gc_Yspec hD (ix := 361) (M := (yX3_init, cX3_init, 1, none)) (As := []) (b := L) (st := [.inr (.inr (some L))]) rfl ⟨(hw.1 _ (List.mem_of_getElem? (i := 21) rfl)), (hw.1 _ (List.mem_of_getElem? (i := 23) rfl)), (hw.1 _ (List.mem_of_getElem? (i := 22) rfl)), rfl, rfl, ⟨by decide +kernel, by decide +kernel, by decide +kernel⟩, Nat.le_of_ble_eq_true rfl, Or.inr ⟨rfl, rfl, rfl⟩⟩ rfl (Nat.le_of_ble_eq_true rfl) (m_X3_init hw hws htb 7 (I := I8) (J := J9) (A := A) (p := L) ln0 (by omega) S0_0 ok9) (gc_okc (Or.inl (by omega)) (gc_okc trivial gc_ok0)) (gc_oks (Or.inl (by omega)) gc_ok0) ?_
  have okA := mo_X3_init hw hws htb 7 (I := I8) (J := J9) (A := A) (p := L) ln0 (by omega) S0_0 ok9
  refine gv_lift (fun hk => gv_run 1 true hD (pc' := 32) (lv' := [(2, .inr (.inr (some L))), (0, .inr (.inr (some 39))), (1, .inl v1)]) (st' := []) (h' := gc_h (((((((((sh ++ [(false, 3, 16)]) ++ [(true, 1, 6)]) ++ [(true, 1, 6)]) ++ [(true, 1, 6)]) ++ [(true, 1, 4)]) ++ [(true, 1, 4)]) ++ [(true, 1, 4)]) ++ [(true, 1, 18)]) ++ [(true, 1, 18)]) I8 J9 (gc_u (gc_u (gc_u (gc_u (gc_u (gc_u (gc_u (gc_u A L 5 (some (L + 1))) L 6 (some (L + 2))) L 7 (some (L + 3))) L 9 (some (L + 4))) L 10 (some (L + 5))) L 11 (some (L + 6))) L 13 (some (L + 7))) L 15 (some (L + 8)))) (C := (True ∧ True)) rfl ⟨trivial, trivial⟩ hk) ?_
  refine gv_lift (fun hk => gv_pick [1, 2, 0] rfl hk) ?_
  have S1_0 := gc_gx (x := (true, 1, 6)) S0_0
  have S1_1 := gc_gl (x := (true, 1, 6)) (sh := (sh ++ [(false, 3, 16)])) (p := L + 1) ln0.symm
  have ln1 : ((sh ++ [(false, 3, 16)]) ++ [(true, 1, 6)]).length = L + 2 := gc_len1 ln0
  have S2_0 := gc_gx (x := (true, 1, 6)) S1_0
  have S2_1 := gc_gx (x := (true, 1, 6)) S1_1
  have S2_2 := gc_gl (x := (true, 1, 6)) (sh := ((sh ++ [(false, 3, 16)]) ++ [(true, 1, 6)])) (p := L + 2) ln1.symm
  have ln2 : (((sh ++ [(false, 3, 16)]) ++ [(true, 1, 6)]) ++ [(true, 1, 6)]).length = L + 3 := gc_len1 ln1
  have S3_0 := gc_gx (x := (true, 1, 6)) S2_0
  have S3_1 := gc_gx (x := (true, 1, 6)) S2_1
  have S3_2 := gc_gx (x := (true, 1, 6)) S2_2
  have S3_3 := gc_gl (x := (true, 1, 6)) (sh := (((sh ++ [(false, 3, 16)]) ++ [(true, 1, 6)]) ++ [(true, 1, 6)])) (p := L + 3) ln2.symm
  have ln3 : ((((sh ++ [(false, 3, 16)]) ++ [(true, 1, 6)]) ++ [(true, 1, 6)]) ++ [(true, 1, 6)]).length = L + 4 := gc_len1 ln2
  have S4_0 := gc_gx (x := (true, 1, 4)) S3_0
  have S4_1 := gc_gx (x := (true, 1, 4)) S3_1
  have S4_2 := gc_gx (x := (true, 1, 4)) S3_2
  have S4_3 := gc_gx (x := (true, 1, 4)) S3_3
  have S4_4 := gc_gl (x := (true, 1, 4)) (sh := ((((sh ++ [(false, 3, 16)]) ++ [(true, 1, 6)]) ++ [(true, 1, 6)]) ++ [(true, 1, 6)])) (p := L + 4) ln3.symm
  have ln4 : (((((sh ++ [(false, 3, 16)]) ++ [(true, 1, 6)]) ++ [(true, 1, 6)]) ++ [(true, 1, 6)]) ++ [(true, 1, 4)]).length = L + 5 := gc_len1 ln3
  have S5_0 := gc_gx (x := (true, 1, 4)) S4_0
  have S5_1 := gc_gx (x := (true, 1, 4)) S4_1
  have S5_2 := gc_gx (x := (true, 1, 4)) S4_2
  have S5_3 := gc_gx (x := (true, 1, 4)) S4_3
  have S5_4 := gc_gx (x := (true, 1, 4)) S4_4
  have S5_5 := gc_gl (x := (true, 1, 4)) (sh := (((((sh ++ [(false, 3, 16)]) ++ [(true, 1, 6)]) ++ [(true, 1, 6)]) ++ [(true, 1, 6)]) ++ [(true, 1, 4)])) (p := L + 5) ln4.symm
  have ln5 : ((((((sh ++ [(false, 3, 16)]) ++ [(true, 1, 6)]) ++ [(true, 1, 6)]) ++ [(true, 1, 6)]) ++ [(true, 1, 4)]) ++ [(true, 1, 4)]).length = L + 6 := gc_len1 ln4
  have S6_0 := gc_gx (x := (true, 1, 4)) S5_0
  have S6_1 := gc_gx (x := (true, 1, 4)) S5_1
  have S6_2 := gc_gx (x := (true, 1, 4)) S5_2
  have S6_3 := gc_gx (x := (true, 1, 4)) S5_3
  have S6_4 := gc_gx (x := (true, 1, 4)) S5_4
  have S6_5 := gc_gx (x := (true, 1, 4)) S5_5
  have S6_6 := gc_gl (x := (true, 1, 4)) (sh := ((((((sh ++ [(false, 3, 16)]) ++ [(true, 1, 6)]) ++ [(true, 1, 6)]) ++ [(true, 1, 6)]) ++ [(true, 1, 4)]) ++ [(true, 1, 4)])) (p := L + 6) ln5.symm
  have ln6 : (((((((sh ++ [(false, 3, 16)]) ++ [(true, 1, 6)]) ++ [(true, 1, 6)]) ++ [(true, 1, 6)]) ++ [(true, 1, 4)]) ++ [(true, 1, 4)]) ++ [(true, 1, 4)]).length = L + 7 := gc_len1 ln5
  have S7_0 := gc_gx (x := (true, 1, 18)) S6_0
  have S7_1 := gc_gx (x := (true, 1, 18)) S6_1
  have S7_2 := gc_gx (x := (true, 1, 18)) S6_2
  have S7_3 := gc_gx (x := (true, 1, 18)) S6_3
  have S7_4 := gc_gx (x := (true, 1, 18)) S6_4
  have S7_5 := gc_gx (x := (true, 1, 18)) S6_5
  have S7_6 := gc_gx (x := (true, 1, 18)) S6_6
  have S7_7 := gc_gl (x := (true, 1, 18)) (sh := (((((((sh ++ [(false, 3, 16)]) ++ [(true, 1, 6)]) ++ [(true, 1, 6)]) ++ [(true, 1, 6)]) ++ [(true, 1, 4)]) ++ [(true, 1, 4)]) ++ [(true, 1, 4)])) (p := L + 7) ln6.symm
  have ln7 : ((((((((sh ++ [(false, 3, 16)]) ++ [(true, 1, 6)]) ++ [(true, 1, 6)]) ++ [(true, 1, 6)]) ++ [(true, 1, 4)]) ++ [(true, 1, 4)]) ++ [(true, 1, 4)]) ++ [(true, 1, 18)]).length = L + 8 := gc_len1 ln6
  have S8_0 := gc_gx (x := (true, 1, 18)) S7_0
  have S8_1 := gc_gx (x := (true, 1, 18)) S7_1
  have S8_2 := gc_gx (x := (true, 1, 18)) S7_2
  have S8_3 := gc_gx (x := (true, 1, 18)) S7_3
  have S8_4 := gc_gx (x := (true, 1, 18)) S7_4
  have S8_5 := gc_gx (x := (true, 1, 18)) S7_5
  have S8_6 := gc_gx (x := (true, 1, 18)) S7_6
  have S8_7 := gc_gx (x := (true, 1, 18)) S7_7
  have S8_8 := gc_gl (x := (true, 1, 18)) (sh := ((((((((sh ++ [(false, 3, 16)]) ++ [(true, 1, 6)]) ++ [(true, 1, 6)]) ++ [(true, 1, 6)]) ++ [(true, 1, 4)]) ++ [(true, 1, 4)]) ++ [(true, 1, 4)]) ++ [(true, 1, 18)])) (p := L + 8) ln7.symm
  have ln8 : (((((((((sh ++ [(false, 3, 16)]) ++ [(true, 1, 6)]) ++ [(true, 1, 6)]) ++ [(true, 1, 6)]) ++ [(true, 1, 4)]) ++ [(true, 1, 4)]) ++ [(true, 1, 4)]) ++ [(true, 1, 18)]) ++ [(true, 1, 18)]).length = L + 9 := gc_len1 ln7
  have hA2 : ∀ q k, q < sh.length → (gc_u (gc_u (gc_u (gc_u (gc_u (gc_u (gc_u (gc_u A L 5 (some (L + 1))) L 6 (some (L + 2))) L 7 (some (L + 3))) L 9 (some (L + 4))) L 10 (some (L + 5))) L 11 (some (L + 6))) L 13 (some (L + 7))) L 15 (some (L + 8))) q k = A q k := fun q k hq => by
    have e : ¬ q = L := by omega
    simp [gc_u, e]
  have hx : gc_ext sh ro A (((((((((sh ++ [(false, 3, 16)]) ++ [(true, 1, 6)]) ++ [(true, 1, 6)]) ++ [(true, 1, 6)]) ++ [(true, 1, 4)]) ++ [(true, 1, 4)]) ++ [(true, 1, 4)]) ++ [(true, 1, 18)]) ++ [(true, 1, 18)]) (fun q => gc_lr sh.length q ro gc_roL) (gc_u (gc_u (gc_u (gc_u (gc_u (gc_u (gc_u (gc_u A L 5 (some (L + 1))) L 6 (some (L + 2))) L 7 (some (L + 3))) L 9 (some (L + 4))) L 10 (some (L + 5))) L 11 (some (L + 6))) L 13 (some (L + 7))) L 15 (some (L + 8))) := ⟨⟨[(false, 3, 16), (true, 1, 6), (true, 1, 6), (true, 1, 6), (true, 1, 4), (true, 1, 4), (true, 1, 4), (true, 1, 18), (true, 1, 18)], by simp only [List.append_assoc, List.cons_append, List.nil_append]⟩, fun q hq => gc_lr_lt hq, fun q k x hs _ => hA2 q k (gc_x_lt hs)⟩
  have hI2 : gc_Inv (fun q => gc_lr sh.length q ro gc_roL) I8 := gc_Inv_lr hI8 ok8.2 gc_roL0
  have R0 : (fun q => gc_lr sh.length q ro gc_roL) (L + 0) = 14 := by
    show gc_lr sh.length (L + 0) ro gc_roL = 14
    rw [← hL, gc_lr_ge]
    rfl
  have R1 : (fun q => gc_lr sh.length q ro gc_roL) (L + 1) = 15 := by
    show gc_lr sh.length (L + 1) ro gc_roL = 15
    rw [← hL, gc_lr_ge]
    rfl
  have R2 : (fun q => gc_lr sh.length q ro gc_roL) (L + 2) = 16 := by
    show gc_lr sh.length (L + 2) ro gc_roL = 16
    rw [← hL, gc_lr_ge]
    rfl
  have R3 : (fun q => gc_lr sh.length q ro gc_roL) (L + 3) = 17 := by
    show gc_lr sh.length (L + 3) ro gc_roL = 17
    rw [← hL, gc_lr_ge]
    rfl
  have R4 : (fun q => gc_lr sh.length q ro gc_roL) (L + 4) = 18 := by
    show gc_lr sh.length (L + 4) ro gc_roL = 18
    rw [← hL, gc_lr_ge]
    rfl
  have R5 : (fun q => gc_lr sh.length q ro gc_roL) (L + 5) = 13 := by
    show gc_lr sh.length (L + 5) ro gc_roL = 13
    rw [← hL, gc_lr_ge]
    rfl
  have R6 : (fun q => gc_lr sh.length q ro gc_roL) (L + 6) = 19 := by
    show gc_lr sh.length (L + 6) ro gc_roL = 19
    rw [← hL, gc_lr_ge]
    rfl
  have R7 : (fun q => gc_lr sh.length q ro gc_roL) (L + 7) = 20 := by
    show gc_lr sh.length (L + 7) ro gc_roL = 20
    rw [← hL, gc_lr_ge]
    rfl
  have R8 : (fun q => gc_lr sh.length q ro gc_roL) (L + 8) = 21 := by
    show gc_lr sh.length (L + 8) ro gc_roL = 21
    rw [← hL, gc_lr_ge]
    rfl
  have hLin : gc_isLin (((((((((sh ++ [(false, 3, 16)]) ++ [(true, 1, 6)]) ++ [(true, 1, 6)]) ++ [(true, 1, 6)]) ++ [(true, 1, 4)]) ++ [(true, 1, 4)]) ++ [(true, 1, 4)]) ++ [(true, 1, 18)]) ++ [(true, 1, 18)]) (fun q => gc_lr sh.length q ro gc_roL) (gc_u (gc_u (gc_u (gc_u (gc_u (gc_u (gc_u (gc_u A L 5 (some (L + 1))) L 6 (some (L + 2))) L 7 (some (L + 3))) L 9 (some (L + 4))) L 10 (some (L + 5))) L 11 (some (L + 6))) L 13 (some (L + 7))) L 15 (some (L + 8))) L := ⟨S8_0, R0, by omega, by simp [gc_u], S8_1, R1, by omega, by simp [gc_u], S8_2, R2, by omega, by simp [gc_u], S8_3, R3, by omega, by simp [gc_u], S8_4, R4, by omega, by simp [gc_u], S8_5, R5, by omega, by simp [gc_u], S8_6, R6, by omega, by simp [gc_u], S8_7, R7, by omega, by simp [gc_u], S8_8, R8, by omega⟩
  have hT := gc_isTongue_x hx h_t
  have St : sh[t + 16]? = some (true, 4, 384) := by obtain ⟨b0, b1, b2, b3, b4, b5, b6, b7, b8, b9, b10, b11, b12, b13, b14, b15, b16, b17, b18, b19, b20, b21, b22, b23, b24, b25, b26, b27, b28, b29, b30, b31, b32, b33, b34, b35, b36, b37, b38, b39, b40, b41, b42, b43, b44⟩ := h_t; exact b40
  have Stl := gc_x_lt St
  have Stt : sh[t]? = some (false, 11, 16) := h_t.1
  have okt : ∀ (I9 : gr_I) (J5 : gr_J), (∀ q j : Nat, ((q = 39 ∧ j = 3) ∨ (q = 39 ∧ j = 4) ∨ (q = 23 ∧ j = 5) ∨ (q = 23 ∧ j = 6) ∨ (q = 23 ∧ j = 7) ∨ (q = 23 ∧ j = 8) ∨ (q = 1 ∧ j = 17) ∨ (q = 1 ∧ j = 18) ∨ q = 20 ∨ (q = L ∧ j = 0) ∨ (q = L ∧ j = 1) ∨ (q = L ∧ j = 2) ∨ (q = L ∧ j = 3) ∨ (q = L ∧ j = 4) ∨ (q = L ∧ j = 8) ∨ (q = L ∧ j = 12) ∨ (q = L ∧ j = 14) ∨ q = (L + 1) ∨ q = (L + 2) ∨ q = (L + 3) ∨ q = (L + 4) ∨ q = (L + 5) ∨ q = (L + 6) ∨ q = (L + 7) ∨ q = (L + 8) ∨ (q = 39 ∧ j = 6) ∨ (q = 39 ∧ j = 7) ∨ (q = t ∧ j = 13)) ∨ I9 q j = I8 q j) → (∀ q j : Nat, ((q = 23 ∧ j = 9)) ∨ J5 q j = J9 q j) → gc_OK (((((((((sh ++ [(false, 3, 16)]) ++ [(true, 1, 6)]) ++ [(true, 1, 6)]) ++ [(true, 1, 6)]) ++ [(true, 1, 4)]) ++ [(true, 1, 4)]) ++ [(true, 1, 4)]) ++ [(true, 1, 18)]) ++ [(true, 1, 18)]) I9 J5 (gc_u (gc_u (gc_u (gc_u (gc_u (gc_u (gc_u (gc_u A L 5 (some (L + 1))) L 6 (some (L + 2))) L 7 (some (L + 3))) L 9 (some (L + 4))) L 10 (some (L + 5))) L 11 (some (L + 6))) L 13 (some (L + 7))) L 15 (some (L + 8))) := fun I9 J5 f g => gc_OK_fr okA (fun q j => (f q j).imp (fun h => by
      rcases h with ⟨rfl, rfl⟩ | ⟨rfl, rfl⟩ | ⟨rfl, rfl⟩ | ⟨rfl, rfl⟩ | ⟨rfl, rfl⟩ | ⟨rfl, rfl⟩ | ⟨rfl, rfl⟩ | ⟨rfl, rfl⟩ | rfl | ⟨rfl, rfl⟩ | ⟨rfl, rfl⟩ | ⟨rfl, rfl⟩ | ⟨rfl, rfl⟩ | ⟨rfl, rfl⟩ | ⟨rfl, rfl⟩ | ⟨rfl, rfl⟩ | ⟨rfl, rfl⟩ | rfl | rfl | rfl | rfl | rfl | rfl | rfl | rfl | ⟨rfl, rfl⟩ | ⟨rfl, rfl⟩ | ⟨rfl, rfl⟩
      · exact ⟨by omega, gc_tyx (gc_x_sh hx (gc_bS hb (p := 39) rfl))⟩
      · exact ⟨by omega, gc_tyx (gc_x_sh hx (gc_bS hb (p := 39) rfl))⟩
      · exact ⟨by omega, gc_tyx (gc_x_sh hx (gc_bS hb (p := 23) rfl))⟩
      · exact ⟨by omega, gc_tyx (gc_x_sh hx (gc_bS hb (p := 23) rfl))⟩
      · exact ⟨by omega, gc_tyx (gc_x_sh hx (gc_bS hb (p := 23) rfl))⟩
      · exact ⟨by omega, gc_tyx (gc_x_sh hx (gc_bS hb (p := 23) rfl))⟩
      · exact ⟨by omega, gc_tyx (gc_x_sh hx (gc_bS hb (p := 1) rfl))⟩
      · exact ⟨by omega, gc_tyx (gc_x_sh hx (gc_bS hb (p := 1) rfl))⟩
      · exact ⟨by omega, gc_tyx (gc_x_sh hx (gc_bS hb (p := 20) rfl))⟩
      · exact ⟨by omega, gc_tyx S8_0⟩
      · exact ⟨by omega, gc_tyx S8_0⟩
      · exact ⟨by omega, gc_tyx S8_0⟩
      · exact ⟨by omega, gc_tyx S8_0⟩
      · exact ⟨by omega, gc_tyx S8_0⟩
      · exact ⟨by omega, gc_tyx S8_0⟩
      · exact ⟨by omega, gc_tyx S8_0⟩
      · exact ⟨by omega, gc_tyx S8_0⟩
      · exact ⟨by omega, gc_tyx S8_1⟩
      · exact ⟨by omega, gc_tyx S8_2⟩
      · exact ⟨by omega, gc_tyx S8_3⟩
      · exact ⟨by omega, gc_tyx S8_4⟩
      · exact ⟨by omega, gc_tyx S8_5⟩
      · exact ⟨by omega, gc_tyx S8_6⟩
      · exact ⟨by omega, gc_tyx S8_7⟩
      · exact ⟨by omega, gc_tyx S8_8⟩
      · exact ⟨by omega, gc_tyx (gc_x_sh hx (gc_bS hb (p := 39) rfl))⟩
      · exact ⟨by omega, gc_tyx (gc_x_sh hx (gc_bS hb (p := 39) rfl))⟩
      · exact ⟨by omega, gc_tyx (gc_x_sh hx Stt)⟩
      ) id) (fun q j => (g q j).imp (fun h => by omega) id)
  have frt : ∀ (I9 : gr_I), (∀ q j : Nat, ((q = 39 ∧ j = 3) ∨ (q = 39 ∧ j = 4) ∨ (q = 23 ∧ j = 5) ∨ (q = 23 ∧ j = 6) ∨ (q = 23 ∧ j = 7) ∨ (q = 23 ∧ j = 8) ∨ (q = 1 ∧ j = 17) ∨ (q = 1 ∧ j = 18) ∨ q = 20 ∨ (q = L ∧ j = 0) ∨ (q = L ∧ j = 1) ∨ (q = L ∧ j = 2) ∨ (q = L ∧ j = 3) ∨ (q = L ∧ j = 4) ∨ (q = L ∧ j = 8) ∨ (q = L ∧ j = 12) ∨ (q = L ∧ j = 14) ∨ q = (L + 1) ∨ q = (L + 2) ∨ q = (L + 3) ∨ q = (L + 4) ∨ q = (L + 5) ∨ q = (L + 6) ∨ q = (L + 7) ∨ q = (L + 8) ∨ (q = 39 ∧ j = 6) ∨ (q = 39 ∧ j = 7) ∨ (q = t ∧ j = 13)) ∨ I9 q j = I8 q j) → ∀ q j : Nat, q < sh.length → ((q = 39 ∧ j = 3) ∨ (q = 39 ∧ j = 4) ∨ (q = 23 ∧ j = 5) ∨ (q = 23 ∧ j = 6) ∨ (q = 23 ∧ j = 7) ∨ (q = 23 ∧ j = 8) ∨ (q = 1 ∧ j = 17) ∨ (q = 1 ∧ j = 18) ∨ q = 20 ∨ (q = 39 ∧ j = 6) ∨ (q = 39 ∧ j = 7) ∨ (q = t ∧ j = 13)) ∨ I9 q j = I q j := fun I9 f q j hq => by
    rcases f q j with h | h
    · left
      rcases h with ⟨rfl, rfl⟩ | ⟨rfl, rfl⟩ | ⟨rfl, rfl⟩ | ⟨rfl, rfl⟩ | ⟨rfl, rfl⟩ | ⟨rfl, rfl⟩ | ⟨rfl, rfl⟩ | ⟨rfl, rfl⟩ | rfl | ⟨rfl, rfl⟩ | ⟨rfl, rfl⟩ | ⟨rfl, rfl⟩ | ⟨rfl, rfl⟩ | ⟨rfl, rfl⟩ | ⟨rfl, rfl⟩ | ⟨rfl, rfl⟩ | ⟨rfl, rfl⟩ | rfl | rfl | rfl | rfl | rfl | rfl | rfl | rfl | ⟨rfl, rfl⟩ | ⟨rfl, rfl⟩ | ⟨rfl, rfl⟩
      · exact (Or.inl ⟨rfl, rfl⟩)
      · exact (Or.inr (Or.inl ⟨rfl, rfl⟩))
      · exact (Or.inr (Or.inr (Or.inl ⟨rfl, rfl⟩)))
      · exact (Or.inr (Or.inr (Or.inr (Or.inl ⟨rfl, rfl⟩))))
      · exact (Or.inr (Or.inr (Or.inr (Or.inr (Or.inl ⟨rfl, rfl⟩)))))
      · exact (Or.inr (Or.inr (Or.inr (Or.inr (Or.inr (Or.inl ⟨rfl, rfl⟩))))))
      · exact (Or.inr (Or.inr (Or.inr (Or.inr (Or.inr (Or.inr (Or.inl ⟨rfl, rfl⟩)))))))
      · exact (Or.inr (Or.inr (Or.inr (Or.inr (Or.inr (Or.inr (Or.inr (Or.inl ⟨rfl, rfl⟩))))))))
      · exact (Or.inr (Or.inr (Or.inr (Or.inr (Or.inr (Or.inr (Or.inr (Or.inr (Or.inl rfl)))))))))
      · exact absurd hq (by omega)
      · exact absurd hq (by omega)
      · exact absurd hq (by omega)
      · exact absurd hq (by omega)
      · exact absurd hq (by omega)
      · exact absurd hq (by omega)
      · exact absurd hq (by omega)
      · exact absurd hq (by omega)
      · exact absurd hq (by omega)
      · exact absurd hq (by omega)
      · exact absurd hq (by omega)
      · exact absurd hq (by omega)
      · exact absurd hq (by omega)
      · exact absurd hq (by omega)
      · exact absurd hq (by omega)
      · exact absurd hq (by omega)
      · exact (Or.inr (Or.inr (Or.inr (Or.inr (Or.inr (Or.inr (Or.inr (Or.inr (Or.inr (Or.inl ⟨rfl, rfl⟩))))))))))
      · exact (Or.inr (Or.inr (Or.inr (Or.inr (Or.inr (Or.inr (Or.inr (Or.inr (Or.inr (Or.inr (Or.inl ⟨rfl, rfl⟩)))))))))))
      · exact (Or.inr (Or.inr (Or.inr (Or.inr (Or.inr (Or.inr (Or.inr (Or.inr (Or.inr (Or.inr (Or.inr ⟨rfl, rfl⟩)))))))))))
    · rcases F8 q j with h2 | h2
      · exact Or.inl (injH q j h2)
      · exact Or.inr (h.trans h2)
  have frj : ∀ (J5 : gr_J), (∀ q j : Nat, ((q = 23 ∧ j = 9)) ∨ J5 q j = J9 q j) → ∀ q j : Nat, q < sh.length → ((q = 23 ∧ j = 9)) ∨ J5 q j = J q j := fun J5 f q j hq => by
    rcases f q j with h | h
    · exact Or.inl h
    · rcases F9 q j with h2 | h2
      · exact Or.inl h2
      · exact Or.inr (h.trans h2)
  have t13 : I8 t 13 = I t 13 := (F8 t 13).resolve_left (by omega)
  have Ls8 : gc_Ls (((((((((sh ++ [(false, 3, 16)]) ++ [(true, 1, 6)]) ++ [(true, 1, 6)]) ++ [(true, 1, 6)]) ++ [(true, 1, 4)]) ++ [(true, 1, 4)]) ++ [(true, 1, 4)]) ++ [(true, 1, 18)]) ++ [(true, 1, 18)]) (fun q => gc_lr sh.length q ro gc_roL) (gc_u (gc_u (gc_u (gc_u (gc_u (gc_u (gc_u (gc_u A L 5 (some (L + 1))) L 6 (some (L + 2))) L 7 (some (L + 3))) L 9 (some (L + 4))) L 10 (some (L + 5))) L 11 (some (L + 6))) L 13 (some (L + 7))) L 15 (some (L + 8))) t I8 := gc_Ls_x hx (gc_Ls_fr x1 t13 (fun q _ hq d k _ => (F8 (q + d) k).resolve_left (by omega))) (fun i _ => hA2 (t + 16) i Stl)
  have LsL : ∀ i q : Nat, (i : Int) < I8 t 13 → (gc_u (gc_u (gc_u (gc_u (gc_u (gc_u (gc_u (gc_u A L 5 (some (L + 1))) L 6 (some (L + 2))) L 7 (some (L + 3))) L 9 (some (L + 4))) L 10 (some (L + 5))) L 11 (some (L + 6))) L 13 (some (L + 7))) L 15 (some (L + 8))) (t + 16) i = some q → q + 9 ≤ L := fun i q hi hA => by
    rw [hA2 (t + 16) i Stl] at hA
    obtain ⟨q9, b1, b2, b3, _, _⟩ := x1 i (by omega)
    cases b1.symm.trans hA
    have b8 := gc_x_lt (gc_linS8 b2)
    omega
  refine gv_YofX (d_X6_readLin_t hws htb (((((((((sh ++ [(false, 3, 16)]) ++ [(true, 1, 6)]) ++ [(true, 1, 6)]) ++ [(true, 1, 6)]) ++ [(true, 1, 4)]) ++ [(true, 1, 4)]) ++ [(true, 1, 4)]) ++ [(true, 1, 18)]) ++ [(true, 1, 18)]) (fun q => gc_lr sh.length q ro gc_roL) I8 J9 (gc_u (gc_u (gc_u (gc_u (gc_u (gc_u (gc_u (gc_u A L 5 (some (L + 1))) L 6 (some (L + 2))) L 7 (some (L + 3))) L 9 (some (L + 4))) L 10 (some (L + 5))) L 11 (some (L + 6))) L 13 (some (L + 7))) L 15 (some (L + 8))) hI2 t B v1 L (gc_Base_x hx hb) hLin (by omega) hT G_t m0 m5 m1 m2 (ok8.2 L (by omega) 4).1 (ok8.2 L (by omega) 8).1 (ok8.2 L (by omega) 12).1 (ok8.2 L (by omega) 14).1 Ls8 LsL (((F8 39 2).resolve_left (by omega)).trans x2) k1 k2 (fun v h => ?_) (fun I6 J7 s1 hI6 F6 F7 k3 k4 k5 mm li un => ?_))
  · obtain ⟨r, hf, hs9, I', J', e1, e2, e3, e4, e5, e6, z, rfl, z0, z1, p0, p1, p2, p3, p4⟩ := h
    exact gv_Yend ⟨z, (((((((((sh ++ [(false, 3, 16)]) ++ [(true, 1, 6)]) ++ [(true, 1, 6)]) ++ [(true, 1, 6)]) ++ [(true, 1, 4)]) ++ [(true, 1, 4)]) ++ [(true, 1, 4)]) ++ [(true, 1, 18)]) ++ [(true, 1, 18)]), (fun q => gc_lr sh.length q ro gc_roL), I', J', (gc_u (gc_u (gc_u (gc_u (gc_u (gc_u (gc_u (gc_u A L 5 (some (L + 1))) L 6 (some (L + 2))) L 7 (some (L + 3))) L 9 (some (L + 4))) L 10 (some (L + 5))) L 11 (some (L + 6))) L 13 (some (L + 7))) L 15 (some (L + 8))), hf, hs9, e1, ⟨z0, z1⟩, ⟨by decide, by decide⟩, by omega, hx, e2, okt I' J' e3 e4, e5, e6, frt I' e3, frj J' e4, ⟨by omega, by omega, by omega⟩, Or.inl ⟨p3, by omega, hA2⟩⟩
  obtain ⟨n0, n1, n2, n3, n4, n5, n6, n7, n8, n9, n10, n11⟩ := mm
  refine gv_Xz ?_
  have Stx := gc_x_sh hx St
  refine gc_Yaas hD rfl Stx S8_0 ⟨by omega, by omega, by decide⟩ ⟨by omega, by omega⟩ ?_
  refine gv_lift (fun hk => gv_run 1 true hD (pc' := 340) (lv' := []) (st' := [.inl 1]) (h' := gc_h (((((((((sh ++ [(false, 3, 16)]) ++ [(true, 1, 6)]) ++ [(true, 1, 6)]) ++ [(true, 1, 6)]) ++ [(true, 1, 4)]) ++ [(true, 1, 4)]) ++ [(true, 1, 4)]) ++ [(true, 1, 18)]) ++ [(true, 1, 18)]) I6 J7 (gc_u (gc_u (gc_u (gc_u (gc_u (gc_u (gc_u (gc_u (gc_u A L 5 (some (L + 1))) L 6 (some (L + 2))) L 7 (some (L + 3))) L 9 (some (L + 4))) L 10 (some (L + 5))) L 11 (some (L + 6))) L 13 (some (L + 7))) L 15 (some (L + 8))) (t + 16) (Int.toNat s1) (some L))) (C := (True ∧ True)) rfl ⟨trivial, trivial⟩ hk) ?_
  have hx3 : gc_ext (((((((((sh ++ [(false, 3, 16)]) ++ [(true, 1, 6)]) ++ [(true, 1, 6)]) ++ [(true, 1, 6)]) ++ [(true, 1, 4)]) ++ [(true, 1, 4)]) ++ [(true, 1, 4)]) ++ [(true, 1, 18)]) ++ [(true, 1, 18)]) (fun q => gc_lr sh.length q ro gc_roL) (gc_u (gc_u (gc_u (gc_u (gc_u (gc_u (gc_u (gc_u A L 5 (some (L + 1))) L 6 (some (L + 2))) L 7 (some (L + 3))) L 9 (some (L + 4))) L 10 (some (L + 5))) L 11 (some (L + 6))) L 13 (some (L + 7))) L 15 (some (L + 8))) (((((((((sh ++ [(false, 3, 16)]) ++ [(true, 1, 6)]) ++ [(true, 1, 6)]) ++ [(true, 1, 6)]) ++ [(true, 1, 4)]) ++ [(true, 1, 4)]) ++ [(true, 1, 4)]) ++ [(true, 1, 18)]) ++ [(true, 1, 18)]) (fun q => gc_lr sh.length q ro gc_roL) (gc_u (gc_u (gc_u (gc_u (gc_u (gc_u (gc_u (gc_u (gc_u A L 5 (some (L + 1))) L 6 (some (L + 2))) L 7 (some (L + 3))) L 9 (some (L + 4))) L 10 (some (L + 5))) L 11 (some (L + 6))) L 13 (some (L + 7))) L 15 (some (L + 8))) (t + 16) (Int.toNat s1) (some L)) := ⟨⟨[], (List.append_nil _).symm⟩, fun _ _ => rfl, fun q k x hs h4 => by
      have e : ¬ q = t + 16 := fun h9 => by
          subst h9
          rw [Stx] at hs
          cases hs
          cases h4
      unfold gc_u
      rw [if_neg e]⟩
  have s1e : Int.toNat s1 = Int.toNat (I t 13) := by omega
  refine gv_Yend ⟨1, (((((((((sh ++ [(false, 3, 16)]) ++ [(true, 1, 6)]) ++ [(true, 1, 6)]) ++ [(true, 1, 6)]) ++ [(true, 1, 4)]) ++ [(true, 1, 4)]) ++ [(true, 1, 4)]) ++ [(true, 1, 18)]) ++ [(true, 1, 18)]), (fun q => gc_lr sh.length q ro gc_roL), I6, J7, (gc_u (gc_u (gc_u (gc_u (gc_u (gc_u (gc_u (gc_u (gc_u A L 5 (some (L + 1))) L 6 (some (L + 2))) L 7 (some (L + 3))) L 9 (some (L + 4))) L 10 (some (L + 5))) L 11 (some (L + 6))) L 13 (some (L + 7))) L 15 (some (L + 8))) (t + 16) (Int.toNat s1) (some L)), Or.inr (Or.inl ⟨1, .boolean, hD 340 _ rfl, rfl, Or.inr ⟨rfl, Or.inr rfl⟩, rfl, rfl⟩), rfl, rfl, ⟨by decide, by decide⟩, ⟨by decide, by decide⟩, by omega, gc_x_trans hx hx3, hI6, gc_OKu (okt I6 J7 F6 F7) Stx rfl (by omega), k3, k4, frt I6 F6, frj J7 F7, ⟨by omega, by omega, by omega⟩, Or.inr ⟨rfl, by omega, by omega, fun q k hq hne => ?_, L, by omega, by omega, ?_, gc_isLin_x hx3 hLin, li, k5, un, by omega, by omega, by omega, by omega, by omega⟩⟩
  · rw [← s1e] at hne
    have e : (gc_u (gc_u (gc_u (gc_u (gc_u (gc_u (gc_u (gc_u (gc_u A L 5 (some (L + 1))) L 6 (some (L + 2))) L 7 (some (L + 3))) L 9 (some (L + 4))) L 10 (some (L + 5))) L 11 (some (L + 6))) L 13 (some (L + 7))) L 15 (some (L + 8))) (t + 16) (Int.toNat s1) (some L)) q k = (gc_u (gc_u (gc_u (gc_u (gc_u (gc_u (gc_u (gc_u A L 5 (some (L + 1))) L 6 (some (L + 2))) L 7 (some (L + 3))) L 9 (some (L + 4))) L 10 (some (L + 5))) L 11 (some (L + 6))) L 13 (some (L + 7))) L 15 (some (L + 8))) q k := by
      unfold gc_u
      by_cases h1 : q = t + 16
      · rw [if_pos h1, if_neg (fun h2 => hne ⟨h1, h2⟩)]
      · rw [if_neg h1]
    rw [e]
    exact hA2 q k hq
  · rw [← s1e]
    simp [gc_u]
