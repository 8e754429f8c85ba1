set_option maxHeartbeats 4000000 in
set_option maxRecDepth 100000 in
theorem r_wayOf {ws0 : List Cond} {tb : String → gz_T} (hws : ∀ w ∈ gr_ws, w ∈ ws0) (htb : tb RX13 = gr_T) (ext : gz_Sh) (I : gr_I) (J : gr_J) (hI : gr_Inv I) (a1 : Int) (a2 : Int) (a3 : Int) (a4 : Int) (ha1 : (-1) ≤ a1 ∧ a1 ≤ 2999) (ha2 : 0 ≤ a2 ∧ a2 ≤ 95) (ha3 : 0 ≤ a3 ∧ a3 ≤ 384) (ha4 : (-1) ≤ a4 ∧ a4 ≤ 3071) (x0 : a1 < 0 ∨ I 92 (a1).toNat ≤ 8999) : ∃ r h', gz_Ev ws0 tb 1 (yX13_wayOf, cX13_wayOf, 6, (some .int)) [.inr (.inr (some 0)), .inl a1, .inl a2, .inl a3, .inl a4] (gr_sh ++ ext) (gr_h I J) r (gr_sh ++ ext) h' 0 0 ∧ (∃ (I' : gr_I) (J' : gr_J), h' = gr_h I' J' ∧ gr_Inv I' ∧ gr_fr [158, 160] [92, 94, 95, 96, 97] I I' ∧ gr_fj [158, 160] [92, 94, 95, 96, 97] J J' ∧ (∃ z : Int, r = some (.inl z) ∧ (-1) ≤ z ∧ z ≤ 8999)) := by
  have FI : gr_fr [158, 160] [92, 94, 95, 96, 97] I I := fun _ _ _ => rfl
  have FJ : gr_fj [158, 160] [92, 94, 95, 96, 97] J J := fun _ _ _ => rfl
  have hD : gv_D (gr_E ws0 tb 0 (yX13_wayOf, cX13_wayOf, 6, (some .int)) kX13_wayOf) := gq_ok oX13_wayOf
  refine gr_ev (d := 0) (l := kX13_wayOf) (Po := fun r h' => (∃ (I' : gr_I) (J' : gr_J), h' = gr_h I' J' ∧ gr_Inv I' ∧ gr_fr [158, 160] [92, 94, 95, 96, 97] I I' ∧ gr_fj [158, 160] [92, 94, 95, 96, 97] J J' ∧ (∃ z : Int, r = some (.inl z) ∧ (-1) ≤ z ∧ z ≤ 8999))) htb rfl (Nat.le_of_ble_eq_true rfl) ?_
  have f1 := (show 0 ≤ I 0 158 ∧ I 0 158 ≤ 9000 from (hI 0 158).1)
  refine gv_run 1 true hD (pc' := 1) (lv' := [(0, .inr (.inr (some 0))), (1, .inl a1), (2, .inl a2), (3, .inl a3), (4, .inl a4)]) (st' := [.inl a1]) (h' := gr_h I J) (C := (True ∧ True)) rfl ⟨trivial, trivial⟩ ?_
  refine gv_if_ge (t := 6) hD rfl rfl ⟨by omega, by omega⟩ (fun c2 => ?_) (fun c2 => ?_)
  · have f3 := (show 0 ≤ I 0 158 ∧ I 0 158 ≤ 9000 from (hI 0 158).1)
    refine gv_run 3 true hD (pc' := 13) (lv' := [(0, .inr (.inr (some 0))), (1, .inl a1), (2, .inl a2), (3, .inl a3), (4, .inl a4)]) (st' := [.inl 9000, .inl (I 0 158)]) (h' := gr_h I J) (C := (((True ∧ True) ∧ True) ∧ True)) rfl ⟨⟨⟨trivial, trivial⟩, trivial⟩, trivial⟩ ?_
    refine gv_icmp_ne (t := 23) hD rfl rfl ⟨⟨by omega, by omega⟩, ⟨by omega, by omega⟩⟩ (fun c4 => ?_) (fun c4 => ?_)
    · have f5 := (show 0 ≤ I 0 158 ∧ I 0 158 ≤ 9000 from (hI 0 158).1)
      refine gv_run 6 true hD (pc' := 31) (lv' := [(0, .inr (.inr (some 0))), (1, .inl a1), (2, .inl a2), (3, .inl a3), (4, .inl a4)]) (st' := [.inl ((I 0 158) + 1), .inr (.inr (some 0)), .inl (I 0 158)]) (h' := gr_h I J) (C := ((((((True ∧ True) ∧ True) ∧ True) ∧ True) ∧ True) ∧ True)) rfl ⟨⟨⟨⟨⟨⟨trivial, trivial⟩, trivial⟩, trivial⟩, trivial⟩, trivial⟩, trivial⟩ ?_
      refine gv_run 1 true hD (pc' := 34) (lv' := [(0, .inr (.inr (some 0))), (1, .inl a1), (2, .inl a2), (3, .inl a3), (4, .inl a4)]) (st' := [.inl (I 0 158)]) (h' := gz_up (gr_h I J) 0 158 (.inl (((I 0 158) + 1)))) (C := (True ∧ True)) rfl ⟨trivial, trivial⟩ ?_
      refine gr_st hI FI rfl rfl ⟨⟨by show 0 ≤ _; omega, by show _ ≤ 9000; omega⟩, trivial⟩ (fun I6 hI6 FI6 q7 p7 => ?_)
      have t8 := p7 92 (Int.toNat a1) (fun q => absurd q.1 (by decide))
      have f9 := (show 0 ≤ I6 0 158 ∧ I6 0 158 ≤ 9000 from (hI6 0 158).1)
      refine gv_run 5 true hD (pc' := 43) (lv' := [(5, .inl (I 0 158)), (0, .inr (.inr (some 0))), (1, .inl a1), (2, .inl a2), (3, .inl a3), (4, .inl a4)]) (st' := [.inl a1, .inl (I 0 158), .inr (.inr (some 94))]) (h' := gr_h I6 J) (C := (((((True ∧ True) ∧ True) ∧ True) ∧ True) ∧ True)) rfl ⟨⟨⟨⟨⟨trivial, trivial⟩, trivial⟩, trivial⟩, trivial⟩, trivial⟩ ?_
      refine gv_run 1 true hD (pc' := 44) (lv' := [(5, .inl (I 0 158)), (0, .inr (.inr (some 0))), (1, .inl a1), (2, .inl a2), (3, .inl a3), (4, .inl a4)]) (st' := []) (h' := gz_up (gr_h I6 J) 94 (Int.toNat ((I 0 158))) (.inl a1)) (C := (True ∧ (0 ≤ (I 0 158) ∧ (I 0 158) < ((9000 : Nat) : Int)))) rfl ⟨trivial, ⟨by omega, by omega⟩⟩ ?_
      refine gr_st hI6 FI6 rfl rfl ⟨⟨by show 0 ≤ _; omega, by show _ ≤ 2999; omega⟩, trivial⟩ (fun I10 hI10 FI10 q11 p11 => ?_)
      have t12 := p11 0 158 (fun q => absurd q.1 (by decide))
      have t13 := p11 92 (Int.toNat a1) (fun q => absurd q.1 (by decide))
      have f14 := (show 0 ≤ I10 0 158 ∧ I10 0 158 ≤ 9000 from (hI10 0 158).1)
      refine gv_run 4 true hD (pc' := 51) (lv' := [(5, .inl (I 0 158)), (0, .inr (.inr (some 0))), (1, .inl a1), (2, .inl a2), (3, .inl a3), (4, .inl a4)]) (st' := [.inl a2, .inl (I 0 158), .inr (.inr (some 95))]) (h' := gr_h I10 J) (C := ((((True ∧ True) ∧ True) ∧ True) ∧ True)) rfl ⟨⟨⟨⟨trivial, trivial⟩, trivial⟩, trivial⟩, trivial⟩ ?_
      refine gv_run 1 true hD (pc' := 52) (lv' := [(5, .inl (I 0 158)), (0, .inr (.inr (some 0))), (1, .inl a1), (2, .inl a2), (3, .inl a3), (4, .inl a4)]) (st' := []) (h' := gz_up (gr_h I10 J) 95 (Int.toNat ((I 0 158))) (.inl a2)) (C := (True ∧ (0 ≤ (I 0 158) ∧ (I 0 158) < ((9000 : Nat) : Int)))) rfl ⟨trivial, ⟨by omega, by omega⟩⟩ ?_
      refine gr_st hI10 FI10 rfl rfl ⟨⟨by show 0 ≤ _; omega, by show _ ≤ 95; omega⟩, trivial⟩ (fun I15 hI15 FI15 q16 p16 => ?_)
      have t17 := p16 0 158 (fun q => absurd q.1 (by decide))
      have t18 := p16 92 (Int.toNat a1) (fun q => absurd q.1 (by decide))
      have f19 := (show 0 ≤ I15 0 158 ∧ I15 0 158 ≤ 9000 from (hI15 0 158).1)
      refine gv_run 4 true hD (pc' := 59) (lv' := [(5, .inl (I 0 158)), (0, .inr (.inr (some 0))), (1, .inl a1), (2, .inl a2), (3, .inl a3), (4, .inl a4)]) (st' := [.inl a3, .inl (I 0 158), .inr (.inr (some 96))]) (h' := gr_h I15 J) (C := ((((True ∧ True) ∧ True) ∧ True) ∧ True)) rfl ⟨⟨⟨⟨trivial, trivial⟩, trivial⟩, trivial⟩, trivial⟩ ?_
      refine gv_run 1 true hD (pc' := 60) (lv' := [(5, .inl (I 0 158)), (0, .inr (.inr (some 0))), (1, .inl a1), (2, .inl a2), (3, .inl a3), (4, .inl a4)]) (st' := []) (h' := gz_up (gr_h I15 J) 96 (Int.toNat ((I 0 158))) (.inl a3)) (C := (True ∧ (0 ≤ (I 0 158) ∧ (I 0 158) < ((9000 : Nat) : Int)))) rfl ⟨trivial, ⟨by omega, by omega⟩⟩ ?_
      refine gr_st hI15 FI15 rfl rfl ⟨⟨by show 0 ≤ _; omega, by show _ ≤ 384; omega⟩, trivial⟩ (fun I20 hI20 FI20 q21 p21 => ?_)
      have t22 := p21 0 158 (fun q => absurd q.1 (by decide))
      have t23 := p21 92 (Int.toNat a1) (fun q => absurd q.1 (by decide))
      have f24 := (show 0 ≤ I20 0 158 ∧ I20 0 158 ≤ 9000 from (hI20 0 158).1)
      refine gv_run 4 true hD (pc' := 68) (lv' := [(5, .inl (I 0 158)), (0, .inr (.inr (some 0))), (1, .inl a1), (2, .inl a2), (3, .inl a3), (4, .inl a4)]) (st' := [.inl a4, .inl (I 0 158), .inr (.inr (some 97))]) (h' := gr_h I20 J) (C := ((((True ∧ True) ∧ True) ∧ True) ∧ True)) rfl ⟨⟨⟨⟨trivial, trivial⟩, trivial⟩, trivial⟩, trivial⟩ ?_
      refine gv_run 1 true hD (pc' := 69) (lv' := [(5, .inl (I 0 158)), (0, .inr (.inr (some 0))), (1, .inl a1), (2, .inl a2), (3, .inl a3), (4, .inl a4)]) (st' := []) (h' := gz_up (gr_h I20 J) 97 (Int.toNat ((I 0 158))) (.inl a4)) (C := (True ∧ (0 ≤ (I 0 158) ∧ (I 0 158) < ((9000 : Nat) : Int)))) rfl ⟨trivial, ⟨by omega, by omega⟩⟩ ?_
      refine gr_st hI20 FI20 rfl rfl ⟨⟨by show (-1) ≤ _; omega, by show _ ≤ 3071; omega⟩, trivial⟩ (fun I25 hI25 FI25 q26 p26 => ?_)
      have t27 := p26 0 158 (fun q => absurd q.1 (by decide))
      have t28 := p26 92 (Int.toNat a1) (fun q => absurd q.1 (by decide))
      have f29 := (show 0 ≤ I25 0 158 ∧ I25 0 158 ≤ 9000 from (hI25 0 158).1)
      have f30 := (show 0 ≤ I25 92 (Int.toNat a1) ∧ I25 92 (Int.toNat a1) ≤ 9000 from (hI25 92 (Int.toNat a1)).1)
      refine gv_run 5 true hD (pc' := 76) (lv' := [(5, .inl (I 0 158)), (0, .inr (.inr (some 0))), (1, .inl a1), (2, .inl a2), (3, .inl a3), (4, .inl a4)]) (st' := [.inl (I25 92 (Int.toNat a1)), .inl a1, .inr (.inr (some 92))]) (h' := gr_h I25 J) (C := (((((True ∧ True) ∧ True) ∧ True) ∧ True) ∧ (0 ≤ a1 ∧ a1 < ((3000 : Nat) : Int)))) rfl ⟨⟨⟨⟨⟨trivial, trivial⟩, trivial⟩, trivial⟩, trivial⟩, ⟨by omega, by omega⟩⟩ ?_
      refine gv_run 3 true hD (pc' := 79) (lv' := [(5, .inl (I 0 158)), (0, .inr (.inr (some 0))), (1, .inl a1), (2, .inl a2), (3, .inl a3), (4, .inl a4)]) (st' := []) (h' := gz_up (gr_h I25 J) 92 (Int.toNat a1) (.inl (((I25 92 (Int.toNat a1)) + 1)))) (C := (((True ∧ True) ∧ True) ∧ (0 ≤ a1 ∧ a1 < ((3000 : Nat) : Int)))) rfl ⟨⟨⟨trivial, trivial⟩, trivial⟩, ⟨by omega, by omega⟩⟩ ?_
      refine gr_st hI25 FI25 rfl rfl ⟨⟨by show 0 ≤ _; omega, by show _ ≤ 9000; omega⟩, trivial⟩ (fun I31 hI31 FI31 q32 p32 => ?_)
      have t33 := p32 0 158 (fun q => absurd q.1 (by decide))
      have f34 := (show 0 ≤ I31 0 158 ∧ I31 0 158 ≤ 9000 from (hI31 0 158).1)
      refine gv_run 1 true hD (pc' := 81) (lv' := [(5, .inl (I 0 158)), (0, .inr (.inr (some 0))), (1, .inl a1), (2, .inl a2), (3, .inl a3), (4, .inl a4)]) (st' := [.inl (I 0 158)]) (h' := gr_h I31 J) (C := (True ∧ True)) rfl ⟨trivial, trivial⟩ ?_
      exact gv_iret hD rfl ⟨I31, J, rfl, hI31, FI31, FJ, ⟨_, rfl, by omega⟩⟩
    · refine gv_run 3 true hD (pc' := 21) (lv' := [(0, .inr (.inr (some 0))), (1, .inl a1), (2, .inl a2), (3, .inl a3), (4, .inl a4)]) (st' := []) (h' := gz_up (gr_h I J) 0 160 (.inl 1)) (C := (((True ∧ True) ∧ True) ∧ (1 = 0 ∨ 1 = 1))) rfl ⟨⟨⟨trivial, trivial⟩, trivial⟩, (by omega)⟩ ?_
      refine gr_st hI FI rfl rfl ⟨⟨by show 0 ≤ _; omega, by show _ ≤ 1; omega⟩, trivial⟩ (fun I35 hI35 FI35 q36 p36 => ?_)
      have t37 := p36 0 158 (by decide)
      have t38 := p36 92 (Int.toNat a1) (fun q => absurd q.1 (by decide))
      have f39 := (show 0 ≤ I35 0 158 ∧ I35 0 158 ≤ 9000 from (hI35 0 158).1)
      refine gv_run 1 true hD (pc' := 22) (lv' := [(0, .inr (.inr (some 0))), (1, .inl a1), (2, .inl a2), (3, .inl a3), (4, .inl a4)]) (st' := [.inl (-1)]) (h' := gr_h I35 J) (C := (True ∧ True)) rfl ⟨trivial, trivial⟩ ?_
      exact gv_iret hD rfl ⟨I35, J, rfl, hI35, FI35, FJ, ⟨_, rfl, by omega⟩⟩
  · refine gv_run 1 true hD (pc' := 5) (lv' := [(0, .inr (.inr (some 0))), (1, .inl a1), (2, .inl a2), (3, .inl a3), (4, .inl a4)]) (st' := [.inl (-1)]) (h' := gr_h I J) (C := (True ∧ True)) rfl ⟨trivial, trivial⟩ ?_
    exact gv_iret hD rfl ⟨I, J, rfl, hI, FI, FJ, ⟨_, rfl, by omega⟩⟩
set_option maxHeartbeats 4000000 in
set_option maxRecDepth 100000 in
theorem r_heap {ws0 : List Cond} {tb : String → gz_T} (hws : ∀ w ∈ gr_ws, w ∈ ws0) (htb : tb RX13 = gr_T) (ext : gz_Sh) (I : gr_I) (J : gr_J) (hI : gr_Inv I) (a1 : Int) (a2 : Int) (a3 : Int) (a4 : Int64) (ha1 : (-2147483648) ≤ a1 ∧ a1 ≤ 2147483647) (ha2 : (-2147483648) ≤ a2 ∧ a2 ≤ 2147483647) (ha3 : (-2147483648) ≤ a3 ∧ a3 ≤ 2147483647) (x0 : I 0 216 ≤ I 0 217) (x1 : 300 ≤ I 0 217) : ∃ r h', gz_Ev ws0 tb 1 (yX13_heap, cX13_heap, 6, (some .int)) [.inr (.inr (some 0)), .inl a1, .inl a2, .inl a3, .inr (.inl a4)] (gr_sh ++ ext) (gr_h I J) r (gr_sh ++ ext) h' 0 0 ∧ (∃ (I' : gr_I) (J' : gr_J), h' = gr_h I' J' ∧ gr_Inv I' ∧ gr_fr [216, 218] [134, 135, 136, 137] I I' ∧ gr_fj [216, 218] [134, 135, 136, 137] J J' ∧ (∃ z : Int, r = some (.inl z) ∧ (-1) ≤ z ∧ z ≤ 1300 ∧ (I' 0 216 ≤ I' 0 217) ∧ (I' 0 217 = I 0 217))) := by
  have FI : gr_fr [216, 218] [134, 135, 136, 137] I I := fun _ _ _ => rfl
  have FJ : gr_fj [216, 218] [134, 135, 136, 137] J J := fun _ _ _ => rfl
  have hD : gv_D (gr_E ws0 tb 0 (yX13_heap, cX13_heap, 6, (some .int)) kX13_heap) := gq_ok oX13_heap
  refine gr_ev (d := 0) (l := kX13_heap) (Po := fun r h' => (∃ (I' : gr_I) (J' : gr_J), h' = gr_h I' J' ∧ gr_Inv I' ∧ gr_fr [216, 218] [134, 135, 136, 137] I I' ∧ gr_fj [216, 218] [134, 135, 136, 137] J J' ∧ (∃ z : Int, r = some (.inl z) ∧ (-1) ≤ z ∧ z ≤ 1300 ∧ (I' 0 216 ≤ I' 0 217) ∧ (I' 0 217 = I 0 217)))) htb rfl (Nat.le_of_ble_eq_true rfl) ?_
  have f1 := (show 0 ≤ I 0 216 ∧ I 0 216 ≤ 1300 from (hI 0 216).1)
  have f2 := (show 0 ≤ I 0 217 ∧ I 0 217 ≤ 1300 from (hI 0 217).1)
  have f3 := (show 0 ≤ I 0 216 ∧ I 0 216 ≤ 1300 from (hI 0 216).1)
  have f4 := (show 0 ≤ I 0 217 ∧ I 0 217 ≤ 1300 from (hI 0 217).1)
  refine gv_run 4 true hD (pc' := 8) (lv' := [(0, .inr (.inr (some 0))), (1, .inl a1), (2, .inl a2), (3, .inl a3), (4, .inr (.inl a4))]) (st' := [.inl (I 0 217), .inl (I 0 216)]) (h' := gr_h I J) (C := ((((True ∧ True) ∧ True) ∧ True) ∧ True)) rfl ⟨⟨⟨⟨trivial, trivial⟩, trivial⟩, trivial⟩, trivial⟩ ?_
  refine gv_icmp_ne (t := 23) hD rfl rfl ⟨⟨by omega, by omega⟩, ⟨by omega, by omega⟩⟩ (fun c5 => ?_) (fun c5 => ?_)
  · have f6 := (show 0 ≤ I 0 216 ∧ I 0 216 ≤ 1300 from (hI 0 216).1)
    refine gv_run 5 true hD (pc' := 32) (lv' := [(0, .inr (.inr (some 0))), (1, .inl a1), (2, .inl a2), (3, .inl a3), (4, .inr (.inl a4))]) (st' := [.inl a1, .inl (I 0 216), .inr (.inr (some 134))]) (h' := gr_h I J) (C := (((((True ∧ True) ∧ True) ∧ True) ∧ True) ∧ True)) rfl ⟨⟨⟨⟨⟨trivial, trivial⟩, trivial⟩, trivial⟩, trivial⟩, trivial⟩ ?_
    refine gv_run 1 true hD (pc' := 33) (lv' := [(0, .inr (.inr (some 0))), (1, .inl a1), (2, .inl a2), (3, .inl a3), (4, .inr (.inl a4))]) (st' := []) (h' := gz_up (gr_h I J) 134 (Int.toNat ((I 0 216))) (.inl a1)) (C := (True ∧ (0 ≤ (I 0 216) ∧ (I 0 216) < ((2000 : Nat) : Int)))) rfl ⟨trivial, ⟨by omega, by omega⟩⟩ ?_
    refine gr_st hI FI rfl rfl ⟨⟨by show (-2147483648) ≤ _; omega, by show _ ≤ 2147483647; omega⟩, trivial⟩ (fun I7 hI7 FI7 q8 p8 => ?_)
    have t9 := p8 0 216 (fun q => absurd q.1 (by decide))
    have t10 := p8 0 217 (fun q => absurd q.1 (by decide))
    have f11 := (show 0 ≤ I7 0 216 ∧ I7 0 216 ≤ 1300 from (hI7 0 216).1)
    have f12 := (show 0 ≤ I7 0 217 ∧ I7 0 217 ≤ 1300 from (hI7 0 217).1)
    have f13 := (show 0 ≤ I7 0 216 ∧ I7 0 216 ≤ 1300 from (hI7 0 216).1)
    refine gv_run 5 true hD (pc' := 42) (lv' := [(0, .inr (.inr (some 0))), (1, .inl a1), (2, .inl a2), (3, .inl a3), (4, .inr (.inl a4))]) (st' := [.inl a2, .inl (I7 0 216), .inr (.inr (some 135))]) (h' := gr_h I7 J) (C := (((((True ∧ True) ∧ True) ∧ True) ∧ True) ∧ True)) rfl ⟨⟨⟨⟨⟨trivial, trivial⟩, trivial⟩, trivial⟩, trivial⟩, trivial⟩ ?_
    refine gv_run 1 true hD (pc' := 43) (lv' := [(0, .inr (.inr (some 0))), (1, .inl a1), (2, .inl a2), (3, .inl a3), (4, .inr (.inl a4))]) (st' := []) (h' := gz_up (gr_h I7 J) 135 (Int.toNat ((I7 0 216))) (.inl a2)) (C := (True ∧ (0 ≤ (I7 0 216) ∧ (I7 0 216) < ((2000 : Nat) : Int)))) rfl ⟨trivial, ⟨by omega, by omega⟩⟩ ?_
    refine gr_st hI7 FI7 rfl rfl ⟨⟨by show (-2147483648) ≤ _; omega, by show _ ≤ 2147483647; omega⟩, trivial⟩ (fun I14 hI14 FI14 q15 p15 => ?_)
    have t16 := p15 0 216 (fun q => absurd q.1 (by decide))
    have t17 := p15 0 217 (fun q => absurd q.1 (by decide))
    have f18 := (show 0 ≤ I14 0 216 ∧ I14 0 216 ≤ 1300 from (hI14 0 216).1)
    have f19 := (show 0 ≤ I14 0 217 ∧ I14 0 217 ≤ 1300 from (hI14 0 217).1)
    have f20 := (show 0 ≤ I14 0 216 ∧ I14 0 216 ≤ 1300 from (hI14 0 216).1)
    refine gv_run 5 true hD (pc' := 52) (lv' := [(0, .inr (.inr (some 0))), (1, .inl a1), (2, .inl a2), (3, .inl a3), (4, .inr (.inl a4))]) (st' := [.inl a3, .inl (I14 0 216), .inr (.inr (some 136))]) (h' := gr_h I14 J) (C := (((((True ∧ True) ∧ True) ∧ True) ∧ True) ∧ True)) rfl ⟨⟨⟨⟨⟨trivial, trivial⟩, trivial⟩, trivial⟩, trivial⟩, trivial⟩ ?_
    refine gv_run 1 true hD (pc' := 53) (lv' := [(0, .inr (.inr (some 0))), (1, .inl a1), (2, .inl a2), (3, .inl a3), (4, .inr (.inl a4))]) (st' := []) (h' := gz_up (gr_h I14 J) 136 (Int.toNat ((I14 0 216))) (.inl a3)) (C := (True ∧ (0 ≤ (I14 0 216) ∧ (I14 0 216) < ((2000 : Nat) : Int)))) rfl ⟨trivial, ⟨by omega, by omega⟩⟩ ?_
    refine gr_st hI14 FI14 rfl rfl ⟨⟨by show (-2147483648) ≤ _; omega, by show _ ≤ 2147483647; omega⟩, trivial⟩ (fun I21 hI21 FI21 q22 p22 => ?_)
    have t23 := p22 0 216 (fun q => absurd q.1 (by decide))
    have t24 := p22 0 217 (fun q => absurd q.1 (by decide))
    have f25 := (show 0 ≤ I21 0 216 ∧ I21 0 216 ≤ 1300 from (hI21 0 216).1)
    have f26 := (show 0 ≤ I21 0 217 ∧ I21 0 217 ≤ 1300 from (hI21 0 217).1)
    have f27 := (show 0 ≤ I21 0 216 ∧ I21 0 216 ≤ 1300 from (hI21 0 216).1)
    refine gv_run 5 true hD (pc' := 63) (lv' := [(0, .inr (.inr (some 0))), (1, .inl a1), (2, .inl a2), (3, .inl a3), (4, .inr (.inl a4))]) (st' := [.inr (.inl a4), .inl (I21 0 216), .inr (.inr (some 137))]) (h' := gr_h I21 J) (C := (((((True ∧ True) ∧ True) ∧ True) ∧ True) ∧ True)) rfl ⟨⟨⟨⟨⟨trivial, trivial⟩, trivial⟩, trivial⟩, trivial⟩, trivial⟩ ?_
    refine gv_run 1 true hD (pc' := 64) (lv' := [(0, .inr (.inr (some 0))), (1, .inl a1), (2, .inl a2), (3, .inl a3), (4, .inr (.inl a4))]) (st' := []) (h' := gz_up (gr_h I21 J) 137 (Int.toNat ((I21 0 216))) (.inr (.inl a4))) (C := (True ∧ (0 ≤ (I21 0 216) ∧ (I21 0 216) < ((2000 : Nat) : Int)))) rfl ⟨trivial, ⟨by omega, by omega⟩⟩ ?_
    refine gr_stJ FJ rfl rfl (fun J28 FJ28 => ?_)
    have f29 := (show 0 ≤ I21 0 216 ∧ I21 0 216 ≤ 1300 from (hI21 0 216).1)
    refine gv_run 6 true hD (pc' := 72) (lv' := [(0, .inr (.inr (some 0))), (1, .inl a1), (2, .inl a2), (3, .inl a3), (4, .inr (.inl a4))]) (st' := [.inl ((I21 0 216) + 1), .inr (.inr (some 0)), .inl (I21 0 216)]) (h' := gr_h I21 J28) (C := ((((((True ∧ True) ∧ True) ∧ True) ∧ True) ∧ True) ∧ True)) rfl ⟨⟨⟨⟨⟨⟨trivial, trivial⟩, trivial⟩, trivial⟩, trivial⟩, trivial⟩, trivial⟩ ?_
    refine gv_run 1 true hD (pc' := 75) (lv' := [(0, .inr (.inr (some 0))), (1, .inl a1), (2, .inl a2), (3, .inl a3), (4, .inr (.inl a4))]) (st' := [.inl (I21 0 216)]) (h' := gz_up (gr_h I21 J28) 0 216 (.inl (((I21 0 216) + 1)))) (C := (True ∧ True)) rfl ⟨trivial, trivial⟩ ?_
    refine gr_st hI21 FI21 rfl rfl ⟨⟨by show 0 ≤ _; omega, by show _ ≤ 1300; omega⟩, trivial⟩ (fun I30 hI30 FI30 q31 p31 => ?_)
    have t32 := p31 0 217 (by decide)
    have f33 := (show 0 ≤ I30 0 216 ∧ I30 0 216 ≤ 1300 from (hI30 0 216).1)
    have f34 := (show 0 ≤ I30 0 217 ∧ I30 0 217 ≤ 1300 from (hI30 0 217).1)
    exact gv_iret hD rfl ⟨I30, J28, rfl, hI30, FI30, FJ28, ⟨_, rfl, by omega⟩⟩
  · refine gv_run 3 true hD (pc' := 16) (lv' := [(0, .inr (.inr (some 0))), (1, .inl a1), (2, .inl a2), (3, .inl a3), (4, .inr (.inl a4))]) (st' := []) (h' := gz_up (gr_h I J) 0 218 (.inl 1)) (C := (((True ∧ True) ∧ True) ∧ (1 = 0 ∨ 1 = 1))) rfl ⟨⟨⟨trivial, trivial⟩, trivial⟩, (by omega)⟩ ?_
    refine gr_st hI FI rfl rfl ⟨⟨by show 0 ≤ _; omega, by show _ ≤ 1; omega⟩, trivial⟩ (fun I35 hI35 FI35 q36 p36 => ?_)
    have t37 := p36 0 216 (by decide)
    have t38 := p36 0 217 (by decide)
    have f39 := (show 0 ≤ I35 0 216 ∧ I35 0 216 ≤ 1300 from (hI35 0 216).1)
    have f40 := (show 0 ≤ I35 0 217 ∧ I35 0 217 ≤ 1300 from (hI35 0 217).1)
    have f41 := (show 0 ≤ I35 0 216 ∧ I35 0 216 ≤ 1300 from (hI35 0 216).1)
    refine gv_run 4 true hD (pc' := 22) (lv' := [(0, .inr (.inr (some 0))), (1, .inl a1), (2, .inl a2), (3, .inl a3), (4, .inr (.inl a4))]) (st' := [.inl ((I35 0 216) - 1)]) (h' := gr_h I35 J) (C := ((((True ∧ True) ∧ True) ∧ True) ∧ True)) rfl ⟨⟨⟨⟨trivial, trivial⟩, trivial⟩, trivial⟩, trivial⟩ ?_
    exact gv_iret hD rfl ⟨I35, J, rfl, hI35, FI35, FJ, ⟨_, rfl, by omega⟩⟩
set_option maxHeartbeats 4000000 in
set_option maxRecDepth 100000 in
theorem r_thingOf {ws0 : List Cond} {tb : String → gz_T} (hws : ∀ w ∈ gr_ws, w ∈ ws0) (htb : tb RX13 = gr_T) (ext : gz_Sh) (I : gr_I) (J : gr_J) (hI : gr_Inv I) (a1 : Int) (ha1 : 0 ≤ a1 ∧ a1 ≤ 1299) (x0 : I 134 (a1).toNat = 1 → 0 ≤ I 135 (a1).toNat ∧ I 135 (a1).toNat < I 0 220) : ∃ r h', gz_Ev ws0 tb 2 (yX13_thingOf, cX13_thingOf, 2, (some .int)) [.inr (.inr (some 0)), .inl a1] (gr_sh ++ ext) (gr_h I J) r (gr_sh ++ ext) h' 0 0 ∧ (h' = gr_h I J ∧ (∃ z : Int, r = some (.inl z) ∧ (-2147483648) ≤ z ∧ z ≤ 2147483647)) := by
  have hD : gv_D (gr_E ws0 tb 1 (yX13_thingOf, cX13_thingOf, 2, (some .int)) kX13_thingOf) := gq_ok oX13_thingOf
  refine gr_ev (d := 1) (l := kX13_thingOf) (Po := fun r h' => (h' = gr_h I J ∧ (∃ z : Int, r = some (.inl z) ∧ (-2147483648) ≤ z ∧ z ≤ 2147483647))) htb rfl (Nat.le_of_ble_eq_true rfl) ?_
  have f1 := (show 0 ≤ I 0 220 ∧ I 0 220 ≤ 399 from (hI 0 220).1)
  have f2 := (show 0 ≤ I 0 4 ∧ I 0 4 ≤ 8 from (hI 0 4).1)
  have L61 : ∀ (s0_3 : Int), (((-2147483648) ≤ s0_3 ∧ s0_3 ≤ 2147483647)) → gv_X (gr_E ws0 tb 1 (yX13_thingOf, cX13_thingOf, 2, (some .int)) kX13_thingOf) (gv_Q cX13_thingOf (some .int) (gr_sh ++ ext) (fun r h' => (h' = gr_h I J ∧ (∃ z : Int, r = some (.inl z) ∧ (-2147483648) ≤ z ∧ z ≤ 2147483647)))) (61, [], [.inl s0_3], gr_sh ++ ext, gr_h I J) := by
    intro s0_3 m_3
    have hs0_3 := m_3
    have f4 := (show 0 ≤ I 0 220 ∧ I 0 220 ≤ 399 from (hI 0 220).1)
    have f5 := (show 0 ≤ I 0 4 ∧ I 0 4 ≤ 8 from (hI 0 4).1)
    exact gv_iret hD rfl ⟨rfl, ⟨_, rfl, by omega⟩⟩
  have f6 := (show (-2147483648) ≤ I 134 (Int.toNat a1) ∧ I 134 (Int.toNat a1) ≤ 2147483647 from (hI 134 (Int.toNat a1)).1)
  refine gv_run 4 true hD (pc' := 6) (lv' := [(0, .inr (.inr (some 0))), (1, .inl a1)]) (st' := [.inl (I 134 (Int.toNat a1))]) (h' := gr_h I J) (C := ((((True ∧ True) ∧ True) ∧ True) ∧ (0 ≤ a1 ∧ a1 < ((2000 : Nat) : Int)))) rfl ⟨⟨⟨⟨trivial, trivial⟩, trivial⟩, trivial⟩, ⟨by omega, by omega⟩⟩ ?_
  refine gv_run 1 true hD (pc' := 7) (lv' := [(0, .inr (.inr (some 0))), (1, .inl a1)]) (st' := [.inl 2, .inl (I 134 (Int.toNat a1))]) (h' := gr_h I J) (C := (True ∧ True)) rfl ⟨trivial, trivial⟩ ?_
  refine gv_icmp_ne (t := 29) hD rfl rfl ⟨⟨by omega, by omega⟩, ⟨by omega, by omega⟩⟩ (fun c7 => ?_) (fun c7 => ?_)
  · have f8 := (show (-2147483648) ≤ I 134 (Int.toNat a1) ∧ I 134 (Int.toNat a1) ≤ 2147483647 from (hI 134 (Int.toNat a1)).1)
    refine gv_run 4 true hD (pc' := 35) (lv' := [(0, .inr (.inr (some 0))), (1, .inl a1)]) (st' := [.inl (I 134 (Int.toNat a1))]) (h' := gr_h I J) (C := ((((True ∧ True) ∧ True) ∧ True) ∧ (0 ≤ a1 ∧ a1 < ((2000 : Nat) : Int)))) rfl ⟨⟨⟨⟨trivial, trivial⟩, trivial⟩, trivial⟩, ⟨by omega, by omega⟩⟩ ?_
    refine gv_run 1 true hD (pc' := 36) (lv' := [(0, .inr (.inr (some 0))), (1, .inl a1)]) (st' := [.inl 1, .inl (I 134 (Int.toNat a1))]) (h' := gr_h I J) (C := (True ∧ True)) rfl ⟨trivial, trivial⟩ ?_
    refine gv_icmp_ne (t := 60) hD rfl rfl ⟨⟨by omega, by omega⟩, ⟨by omega, by omega⟩⟩ (fun c9 => ?_) (fun c9 => ?_)
    · refine gv_run 1 true hD (pc' := 61) (lv' := [(0, .inr (.inr (some 0))), (1, .inl a1)]) (st' := [.inl (-1)]) (h' := gr_h I J) (C := (True ∧ True)) rfl ⟨trivial, trivial⟩ ?_
      refine gv_pick [] rfl ?_
      exact L61 (-1) (by omega)
    · have f10 := (show 0 ≤ I 0 220 ∧ I 0 220 ≤ 399 from (hI 0 220).1)
      refine gv_run 7 true hD (pc' := 50) (lv' := [(0, .inr (.inr (some 0))), (1, .inl a1)]) (st' := [.inr (.inr (some 0)), .inl ((I 0 220) - 1), .inr (.inr (some 138))]) (h' := gr_h I J) (C := (((((((True ∧ True) ∧ True) ∧ True) ∧ True) ∧ True) ∧ True) ∧ True)) rfl ⟨⟨⟨⟨⟨⟨⟨trivial, trivial⟩, trivial⟩, trivial⟩, trivial⟩, trivial⟩, trivial⟩, trivial⟩ ?_
      have f11 := (show (-2147483648) ≤ I 135 (Int.toNat a1) ∧ I 135 (Int.toNat a1) ≤ 2147483647 from (hI 135 (Int.toNat a1)).1)
      refine gv_run 3 true hD (pc' := 55) (lv' := [(0, .inr (.inr (some 0))), (1, .inl a1)]) (st' := [.inl (I 135 (Int.toNat a1)), .inl ((I 0 220) - 1), .inr (.inr (some 138))]) (h' := gr_h I J) (C := (((True ∧ True) ∧ True) ∧ (0 ≤ a1 ∧ a1 < ((2000 : Nat) : Int)))) rfl ⟨⟨⟨trivial, trivial⟩, trivial⟩, ⟨by omega, by omega⟩⟩ ?_
      have f12 := (show (-2147483648) ≤ I 138 (Int.toNat ((((I 0 220) - 1) - (I 135 (Int.toNat a1))))) ∧ I 138 (Int.toNat ((((I 0 220) - 1) - (I 135 (Int.toNat a1))))) ≤ 2147483647 from (hI 138 (Int.toNat ((((I 0 220) - 1) - (I 135 (Int.toNat a1)))))).1)
      refine gv_run 2 true hD (pc' := 57) (lv' := [(0, .inr (.inr (some 0))), (1, .inl a1)]) (st' := [.inl (I 138 (Int.toNat ((((I 0 220) - 1) - (I 135 (Int.toNat a1))))))]) (h' := gr_h I J) (C := ((True ∧ True) ∧ (0 ≤ ((((I 0 220) - 1) - (I 135 (Int.toNat a1)))) ∧ ((((I 0 220) - 1) - (I 135 (Int.toNat a1)))) < ((400 : Nat) : Int)))) rfl ⟨⟨trivial, trivial⟩, ⟨by omega, by omega⟩⟩ ?_
      refine gv_run 1 true hD (pc' := 61) (lv' := [(0, .inr (.inr (some 0))), (1, .inl a1)]) (st' := [.inl (I 138 (Int.toNat ((((I 0 220) - 1) - (I 135 (Int.toNat a1))))))]) (h' := gr_h I J) (C := (True ∧ True)) rfl ⟨trivial, trivial⟩ ?_
      refine gv_pick [] rfl ?_
      exact L61 ((I 138 (Int.toNat ((((I 0 220) - 1) - (I 135 (Int.toNat a1))))))) (by omega)
  · have f13 := (show 0 ≤ I 0 4 ∧ I 0 4 ≤ 8 from (hI 0 4).1)
    refine gv_run 7 true hD (pc' := 23) (lv' := [(0, .inr (.inr (some 0))), (1, .inl a1)]) (st' := [.inr (.inr (some 137)), .inl (I 0 4), .inl 0, .inr (.inr (some 4))]) (h' := gr_h I J) (C := (((((((True ∧ True) ∧ True) ∧ True) ∧ True) ∧ True) ∧ True) ∧ True)) rfl ⟨⟨⟨⟨⟨⟨⟨trivial, trivial⟩, trivial⟩, trivial⟩, trivial⟩, trivial⟩, trivial⟩, trivial⟩ ?_
    refine gv_run 2 true hD (pc' := 25) (lv' := [(0, .inr (.inr (some 0))), (1, .inl a1)]) (st' := [.inr (.inl (J 137 (Int.toNat a1))), .inl (I 0 4), .inl 0, .inr (.inr (some 4))]) (h' := gr_h I J) (C := ((True ∧ True) ∧ (0 ≤ a1 ∧ a1 < ((2000 : Nat) : Int)))) rfl ⟨⟨trivial, trivial⟩, ⟨by omega, by omega⟩⟩ ?_
    obtain ⟨r14, h14, E14, P14⟩ := r_find_4 (ws0 := ws0) (tb := tb) hws htb ext I J hI 0 (I 0 4) ((J 137 (Int.toNat a1))) ⟨by omega, by omega⟩ ⟨by omega, by omega⟩ (by omega)
    obtain ⟨rfl, ⟨z14, rfl, q14⟩⟩ := P14
    refine gv_callS hD rfl (As := [.inr (.inr (some 4)), .inl 0, .inl (I 0 4), .inr (.inl (J 137 (Int.toNat a1)))]) (st := []) rfl (gr_lS hws rfl) (Nat.le_of_ble_eq_true rfl) (gz_Ev_mono (d := 1) (by decide) E14) ?_
    show gv_X _ _ (28, [(0, .inr (.inr (some 0))), (1, .inl a1)], [.inl z14], gr_sh ++ ext, gr_h I J)
    exact gv_iret hD rfl ⟨rfl, ⟨_, rfl, by omega⟩⟩
