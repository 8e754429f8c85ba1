
set_option maxHeartbeats 4000000 in
set_option maxRecDepth 100000 in
theorem r_wayOf_m {ws0 : List Cond} {tb : String → gz_T} (hws : ∀ w ∈ gr_ws, w ∈ ws0) (htb : tb RX13 = gr_T) (ext : gz_Sh) (I : gr_I) (J : gr_J) (hI : gr_Inv I) (a1 : Int) (a2 : Int) (a3 : Int) (a4 : Int) (ha1 : (-1) ≤ a1 ∧ a1 ≤ 2999) (ha2 : 0 ≤ a2 ∧ a2 ≤ 95) (ha3 : 0 ≤ a3 ∧ a3 ≤ 384) (ha4 : (-1) ≤ a4 ∧ a4 ≤ 3071) (x0 : a1 < I 0 157) (x1 : gr_NM I) : ∃ r h', gz_Ev ws0 tb 1 (yX13_wayOf, cX13_wayOf, 6, (some .int)) [.inr (.inr (some 0)), .inl a1, .inl a2, .inl a3, .inl a4] (gr_sh ++ ext) (gr_h I J) r (gr_sh ++ ext) h' 0 0 ∧ (∃ (I' : gr_I) (J' : gr_J), h' = gr_h I' J' ∧ gr_Inv I' ∧ gr_fr [158, 160] [92, 94, 95, 96, 97] I I' ∧ gr_fj [158, 160] [92, 94, 95, 96, 97] J J' ∧ (∃ z : Int, r = some (.inl z) ∧ (-1) ≤ z ∧ z ≤ 8999 ∧ (gr_NM I') ∧ (I 0 158 ≤ I' 0 158) ∧ (I' 0 157 = I 0 157))) := by
  have FI : gr_fr [158, 160] [92, 94, 95, 96, 97] I I := fun _ _ _ => rfl
  have FJ : gr_fj [158, 160] [92, 94, 95, 96, 97] J J := fun _ _ _ => rfl
  have hD : gv_D (gr_E ws0 tb 0 (yX13_wayOf, cX13_wayOf, 6, (some .int)) kX13_wayOf) := gq_ok oX13_wayOf
  refine gr_ev (d := 0) (l := kX13_wayOf) (Po := fun r h' => (∃ (I' : gr_I) (J' : gr_J), h' = gr_h I' J' ∧ gr_Inv I' ∧ gr_fr [158, 160] [92, 94, 95, 96, 97] I I' ∧ gr_fj [158, 160] [92, 94, 95, 96, 97] J J' ∧ (∃ z : Int, r = some (.inl z) ∧ (-1) ≤ z ∧ z ≤ 8999 ∧ (gr_NM I') ∧ (I 0 158 ≤ I' 0 158) ∧ (I' 0 157 = I 0 157)))) htb rfl (Nat.le_of_ble_eq_true rfl) ?_
  have f1 := (show 0 ≤ I 0 157 ∧ I 0 157 ≤ 3000 from (hI 0 157).1)
  have f2 := (show 0 ≤ I 0 158 ∧ I 0 158 ≤ 9000 from (hI 0 158).1)
  refine gv_run 1 true hD (pc' := 1) (lv' := [(0, .inr (.inr (some 0))), (1, .inl a1), (2, .inl a2), (3, .inl a3), (4, .inl a4)]) (st' := [.inl a1]) (h' := gr_h I J) (C := (True ∧ True)) rfl ⟨trivial, trivial⟩ ?_
  refine gv_if_ge (t := 6) hD rfl rfl ⟨by omega, by omega⟩ (fun c3 => ?_) (fun c3 => ?_)
  · have f4 := (show 0 ≤ I 0 158 ∧ I 0 158 ≤ 9000 from (hI 0 158).1)
    refine gv_run 3 true hD (pc' := 13) (lv' := [(0, .inr (.inr (some 0))), (1, .inl a1), (2, .inl a2), (3, .inl a3), (4, .inl a4)]) (st' := [.inl 9000, .inl (I 0 158)]) (h' := gr_h I J) (C := (((True ∧ True) ∧ True) ∧ True)) rfl ⟨⟨⟨trivial, trivial⟩, trivial⟩, trivial⟩ ?_
    refine gv_icmp_ne (t := 23) hD rfl rfl ⟨⟨by omega, by omega⟩, ⟨by omega, by omega⟩⟩ (fun c5 => ?_) (fun c5 => ?_)
    · have f6 := (show 0 ≤ I 0 158 ∧ I 0 158 ≤ 9000 from (hI 0 158).1)
      refine gv_run 6 true hD (pc' := 31) (lv' := [(0, .inr (.inr (some 0))), (1, .inl a1), (2, .inl a2), (3, .inl a3), (4, .inl a4)]) (st' := [.inl ((I 0 158) + 1), .inr (.inr (some 0)), .inl (I 0 158)]) (h' := gr_h I J) (C := ((((((True ∧ True) ∧ True) ∧ True) ∧ True) ∧ True) ∧ True)) rfl ⟨⟨⟨⟨⟨⟨trivial, trivial⟩, trivial⟩, trivial⟩, trivial⟩, trivial⟩, trivial⟩ ?_
      refine gv_run 1 true hD (pc' := 34) (lv' := [(0, .inr (.inr (some 0))), (1, .inl a1), (2, .inl a2), (3, .inl a3), (4, .inl a4)]) (st' := [.inl (I 0 158)]) (h' := gz_up (gr_h I J) 0 158 (.inl (((I 0 158) + 1)))) (C := (True ∧ True)) rfl ⟨trivial, trivial⟩ ?_
      refine gr_st hI FI rfl rfl ⟨⟨by show 0 ≤ _; omega, by show _ ≤ 9000; omega⟩, trivial⟩ (fun I7 hI7 FI7 q8 p8 => ?_)
      have t9 := p8 0 157 (by decide)
      have f10 := (show 0 ≤ I7 0 157 ∧ I7 0 157 ≤ 3000 from (hI7 0 157).1)
      have f11 := (show 0 ≤ I7 0 158 ∧ I7 0 158 ≤ 9000 from (hI7 0 158).1)
      refine gv_run 5 true hD (pc' := 43) (lv' := [(5, .inl (I 0 158)), (0, .inr (.inr (some 0))), (1, .inl a1), (2, .inl a2), (3, .inl a3), (4, .inl a4)]) (st' := [.inl a1, .inl (I 0 158), .inr (.inr (some 94))]) (h' := gr_h I7 J) (C := (((((True ∧ True) ∧ True) ∧ True) ∧ True) ∧ True)) rfl ⟨⟨⟨⟨⟨trivial, trivial⟩, trivial⟩, trivial⟩, trivial⟩, trivial⟩ ?_
      refine gv_run 1 true hD (pc' := 44) (lv' := [(5, .inl (I 0 158)), (0, .inr (.inr (some 0))), (1, .inl a1), (2, .inl a2), (3, .inl a3), (4, .inl a4)]) (st' := []) (h' := gz_up (gr_h I7 J) 94 (Int.toNat ((I 0 158))) (.inl a1)) (C := (True ∧ (0 ≤ (I 0 158) ∧ (I 0 158) < ((9000 : Nat) : Int)))) rfl ⟨trivial, ⟨by omega, by omega⟩⟩ ?_
      refine gr_st hI7 FI7 rfl rfl ⟨⟨by show 0 ≤ _; omega, by show _ ≤ 2999; omega⟩, trivial⟩ (fun I12 hI12 FI12 q13 p13 => ?_)
      have t14 := p13 0 157 (fun q => absurd q.1 (by decide))
      have t15 := p13 0 158 (fun q => absurd q.1 (by decide))
      have f16 := (show 0 ≤ I12 0 157 ∧ I12 0 157 ≤ 3000 from (hI12 0 157).1)
      have f17 := (show 0 ≤ I12 0 158 ∧ I12 0 158 ≤ 9000 from (hI12 0 158).1)
      refine gv_run 4 true hD (pc' := 51) (lv' := [(5, .inl (I 0 158)), (0, .inr (.inr (some 0))), (1, .inl a1), (2, .inl a2), (3, .inl a3), (4, .inl a4)]) (st' := [.inl a2, .inl (I 0 158), .inr (.inr (some 95))]) (h' := gr_h I12 J) (C := ((((True ∧ True) ∧ True) ∧ True) ∧ True)) rfl ⟨⟨⟨⟨trivial, trivial⟩, trivial⟩, trivial⟩, trivial⟩ ?_
      refine gv_run 1 true hD (pc' := 52) (lv' := [(5, .inl (I 0 158)), (0, .inr (.inr (some 0))), (1, .inl a1), (2, .inl a2), (3, .inl a3), (4, .inl a4)]) (st' := []) (h' := gz_up (gr_h I12 J) 95 (Int.toNat ((I 0 158))) (.inl a2)) (C := (True ∧ (0 ≤ (I 0 158) ∧ (I 0 158) < ((9000 : Nat) : Int)))) rfl ⟨trivial, ⟨by omega, by omega⟩⟩ ?_
      refine gr_st hI12 FI12 rfl rfl ⟨⟨by show 0 ≤ _; omega, by show _ ≤ 95; omega⟩, trivial⟩ (fun I18 hI18 FI18 q19 p19 => ?_)
      have t20 := p19 0 157 (fun q => absurd q.1 (by decide))
      have t21 := p19 0 158 (fun q => absurd q.1 (by decide))
      have f22 := (show 0 ≤ I18 0 157 ∧ I18 0 157 ≤ 3000 from (hI18 0 157).1)
      have f23 := (show 0 ≤ I18 0 158 ∧ I18 0 158 ≤ 9000 from (hI18 0 158).1)
      refine gv_run 4 true hD (pc' := 59) (lv' := [(5, .inl (I 0 158)), (0, .inr (.inr (some 0))), (1, .inl a1), (2, .inl a2), (3, .inl a3), (4, .inl a4)]) (st' := [.inl a3, .inl (I 0 158), .inr (.inr (some 96))]) (h' := gr_h I18 J) (C := ((((True ∧ True) ∧ True) ∧ True) ∧ True)) rfl ⟨⟨⟨⟨trivial, trivial⟩, trivial⟩, trivial⟩, trivial⟩ ?_
      refine gv_run 1 true hD (pc' := 60) (lv' := [(5, .inl (I 0 158)), (0, .inr (.inr (some 0))), (1, .inl a1), (2, .inl a2), (3, .inl a3), (4, .inl a4)]) (st' := []) (h' := gz_up (gr_h I18 J) 96 (Int.toNat ((I 0 158))) (.inl a3)) (C := (True ∧ (0 ≤ (I 0 158) ∧ (I 0 158) < ((9000 : Nat) : Int)))) rfl ⟨trivial, ⟨by omega, by omega⟩⟩ ?_
      refine gr_st hI18 FI18 rfl rfl ⟨⟨by show 0 ≤ _; omega, by show _ ≤ 384; omega⟩, trivial⟩ (fun I24 hI24 FI24 q25 p25 => ?_)
      have t26 := p25 0 157 (fun q => absurd q.1 (by decide))
      have t27 := p25 0 158 (fun q => absurd q.1 (by decide))
      have f28 := (show 0 ≤ I24 0 157 ∧ I24 0 157 ≤ 3000 from (hI24 0 157).1)
      have f29 := (show 0 ≤ I24 0 158 ∧ I24 0 158 ≤ 9000 from (hI24 0 158).1)
      refine gv_run 4 true hD (pc' := 68) (lv' := [(5, .inl (I 0 158)), (0, .inr (.inr (some 0))), (1, .inl a1), (2, .inl a2), (3, .inl a3), (4, .inl a4)]) (st' := [.inl a4, .inl (I 0 158), .inr (.inr (some 97))]) (h' := gr_h I24 J) (C := ((((True ∧ True) ∧ True) ∧ True) ∧ True)) rfl ⟨⟨⟨⟨trivial, trivial⟩, trivial⟩, trivial⟩, trivial⟩ ?_
      refine gv_run 1 true hD (pc' := 69) (lv' := [(5, .inl (I 0 158)), (0, .inr (.inr (some 0))), (1, .inl a1), (2, .inl a2), (3, .inl a3), (4, .inl a4)]) (st' := []) (h' := gz_up (gr_h I24 J) 97 (Int.toNat ((I 0 158))) (.inl a4)) (C := (True ∧ (0 ≤ (I 0 158) ∧ (I 0 158) < ((9000 : Nat) : Int)))) rfl ⟨trivial, ⟨by omega, by omega⟩⟩ ?_
      refine gr_st hI24 FI24 rfl rfl ⟨⟨by show (-1) ≤ _; omega, by show _ ≤ 3071; omega⟩, trivial⟩ (fun I30 hI30 FI30 q31 p31 => ?_)
      have t32 := p31 0 157 (fun q => absurd q.1 (by decide))
      have t33 := p31 0 158 (fun q => absurd q.1 (by decide))
      have f34 := (show 0 ≤ I30 0 157 ∧ I30 0 157 ≤ 3000 from (hI30 0 157).1)
      have f35 := (show 0 ≤ I30 0 158 ∧ I30 0 158 ≤ 9000 from (hI30 0 158).1)
      refine gv_run 1 true hD (pc' := 70) (lv' := [(5, .inl (I 0 158)), (0, .inr (.inr (some 0))), (1, .inl a1), (2, .inl a2), (3, .inl a3), (4, .inl a4)]) (st' := [.inr (.inr (some 0))]) (h' := gr_h I30 J) (C := (True ∧ True)) rfl ⟨trivial, trivial⟩ ?_
      have t36 := x1 (Int.toNat a1) (by omega)
      have t37 := (show I30 92 (Int.toNat a1) = I 92 (Int.toNat a1) from by rw [p31 92 (Int.toNat a1) (fun q => absurd q.1 (by decide)), p25 92 (Int.toNat a1) (fun q => absurd q.1 (by decide)), p19 92 (Int.toNat a1) (fun q => absurd q.1 (by decide)), p13 92 (Int.toNat a1) (fun q => absurd q.1 (by decide)), p8 92 (Int.toNat a1) (fun q => absurd q.1 (by decide))])
      have f38 := (show 0 ≤ I30 92 (Int.toNat a1) ∧ I30 92 (Int.toNat a1) ≤ 9000 from (hI30 92 (Int.toNat a1)).1)
      refine gv_run 4 true hD (pc' := 76) (lv' := [(5, .inl (I 0 158)), (0, .inr (.inr (some 0))), (1, .inl a1), (2, .inl a2), (3, .inl a3), (4, .inl a4)]) (st' := [.inl (I30 92 (Int.toNat a1)), .inl a1, .inr (.inr (some 92))]) (h' := gr_h I30 J) (C := ((((True ∧ True) ∧ True) ∧ True) ∧ (0 ≤ a1 ∧ a1 < ((3000 : Nat) : Int)))) rfl ⟨⟨⟨⟨trivial, trivial⟩, trivial⟩, trivial⟩, ⟨by omega, by omega⟩⟩ ?_
      refine gv_run 3 true hD (pc' := 79) (lv' := [(5, .inl (I 0 158)), (0, .inr (.inr (some 0))), (1, .inl a1), (2, .inl a2), (3, .inl a3), (4, .inl a4)]) (st' := []) (h' := gz_up (gr_h I30 J) 92 (Int.toNat a1) (.inl (((I30 92 (Int.toNat a1)) + 1)))) (C := (((True ∧ True) ∧ True) ∧ (0 ≤ a1 ∧ a1 < ((3000 : Nat) : Int)))) rfl ⟨⟨⟨trivial, trivial⟩, trivial⟩, ⟨by omega, by omega⟩⟩ ?_
      refine gr_st hI30 FI30 rfl rfl ⟨⟨by show 0 ≤ _; omega, by show _ ≤ 9000; omega⟩, trivial⟩ (fun I39 hI39 FI39 q40 p40 => ?_)
      have t41 := p40 0 157 (fun q => absurd q.1 (by decide))
      have t42 := p40 0 158 (fun q => absurd q.1 (by decide))
      have f43 := (show 0 ≤ I39 0 157 ∧ I39 0 157 ≤ 3000 from (hI39 0 157).1)
      have f44 := (show 0 ≤ I39 0 158 ∧ I39 0 158 ≤ 9000 from (hI39 0 158).1)
      refine gv_run 1 true hD (pc' := 81) (lv' := [(5, .inl (I 0 158)), (0, .inr (.inr (some 0))), (1, .inl a1), (2, .inl a2), (3, .inl a3), (4, .inl a4)]) (st' := [.inl (I 0 158)]) (h' := gr_h I39 J) (C := (True ∧ True)) rfl ⟨trivial, trivial⟩ ?_
      exact gv_iret hD rfl ⟨I39, J, rfl, hI39, FI39, FJ, ⟨_, rfl, by omega, by omega, (gr_NM_st (x := Int.toNat a1) x1 (by omega) (by omega) (by omega) (by rw [q40, p31 92 (Int.toNat a1) (fun q => absurd q.1 (by decide)), p25 92 (Int.toNat a1) (fun q => absurd q.1 (by decide)), p19 92 (Int.toNat a1) (fun q => absurd q.1 (by decide)), p13 92 (Int.toNat a1) (fun q => absurd q.1 (by decide)), p8 92 (Int.toNat a1) (fun q => absurd q.1 (by decide))]) (fun z hz => by rw [p40 92 z (fun q => hz q.2), p31 92 z (fun q => absurd q.1 (by decide)), p25 92 z (fun q => absurd q.1 (by decide)), p19 92 z (fun q => absurd q.1 (by decide)), p13 92 z (fun q => absurd q.1 (by decide)), p8 92 z (fun q => absurd q.1 (by decide))])), by omega, by omega⟩⟩
    · refine gv_run 3 true hD (pc' := 21) (lv' := [(0, .inr (.inr (some 0))), (1, .inl a1), (2, .inl a2), (3, .inl a3), (4, .inl a4)]) (st' := []) (h' := gz_up (gr_h I J) 0 160 (.inl 1)) (C := (((True ∧ True) ∧ True) ∧ (1 = 0 ∨ 1 = 1))) rfl ⟨⟨⟨trivial, trivial⟩, trivial⟩, (by omega)⟩ ?_
      refine gr_st hI FI rfl rfl ⟨⟨by show 0 ≤ _; omega, by show _ ≤ 1; omega⟩, trivial⟩ (fun I45 hI45 FI45 q46 p46 => ?_)
      have t47 := p46 0 157 (by decide)
      have t48 := p46 0 158 (by decide)
      have f49 := (show 0 ≤ I45 0 157 ∧ I45 0 157 ≤ 3000 from (hI45 0 157).1)
      have f50 := (show 0 ≤ I45 0 158 ∧ I45 0 158 ≤ 9000 from (hI45 0 158).1)
      refine gv_run 1 true hD (pc' := 22) (lv' := [(0, .inr (.inr (some 0))), (1, .inl a1), (2, .inl a2), (3, .inl a3), (4, .inl a4)]) (st' := [.inl (-1)]) (h' := gr_h I45 J) (C := (True ∧ True)) rfl ⟨trivial, trivial⟩ ?_
      exact gv_iret hD rfl ⟨I45, J, rfl, hI45, FI45, FJ, ⟨_, rfl, by omega, by omega, (gr_NM_fr x1 (fun k => by rw [p46 92 k (fun q => absurd q.1 (by decide))]) (by omega) (by omega)), by omega, by omega⟩⟩
  · refine gv_run 1 true hD (pc' := 5) (lv' := [(0, .inr (.inr (some 0))), (1, .inl a1), (2, .inl a2), (3, .inl a3), (4, .inl a4)]) (st' := [.inl (-1)]) (h' := gr_h I J) (C := (True ∧ True)) rfl ⟨trivial, trivial⟩ ?_
    exact gv_iret hD rfl ⟨I, J, rfl, hI, FI, FJ, ⟨_, rfl, by omega, by omega, x1, by omega, by omega⟩⟩
