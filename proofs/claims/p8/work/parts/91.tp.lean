def gr_TRx (N : Int) (I : gr_I) : Prop := (1 ≤ N ∧ N ≤ 60) ∧ ∀ k : Nat, (k : Int) < N → (0 ≤ I 113 k ∧ I 113 k < I 0 3) ∧ ((0 ≤ I 10 (Int.toNat (I 113 k)) ∧ I 10 (Int.toNat (I 113 k)) < I 0 64) ∧ I 55 (Int.toNat (I 10 (Int.toNat (I 113 k)))) = I 113 k ∧ I 55 (5000 + Int.toNat (I 10 (Int.toNat (I 113 k)))) ≤ 0) ∧ ∀ a : Nat, (a : Int) < I 6 (Int.toNat (I 113 k)) → (k : Int) < I 122 (4 * k + a) ∧ I 122 (4 * k + a) < N
theorem gr_TRx_fr {N : Int} {I I' : gr_I} (h : gr_TRx N I) (h1 : ∀ k, I' 113 k = I 113 k) (h2 : ∀ k, I' 10 k = I 10 k) (h3 : ∀ k, I' 55 k = I 55 k) (h4 : ∀ k, I' 6 k = I 6 k) (h5 : ∀ k, I' 122 k = I 122 k) (h6 : I' 0 3 = I 0 3) (h7 : I' 0 64 = I 0 64) : gr_TRx N I' := ⟨h.1, fun k hk => by
  rw [h1, h2, h3, h3, h4, h6, h7]
  simp only [h5]
  exact h.2 k hk⟩
theorem gr_TRx_b {N : Int} {I : gr_I} (h : gr_TRx N I) {k : Int} (hk : 0 ≤ k ∧ k < N) : (0 ≤ I 113 (Int.toNat k) ∧ I 113 (Int.toNat k) < I 0 3) ∧ ((0 ≤ I 10 (Int.toNat (I 113 (Int.toNat k))) ∧ I 10 (Int.toNat (I 113 (Int.toNat k))) < I 0 64) ∧ I 55 (Int.toNat (I 10 (Int.toNat (I 113 (Int.toNat k))))) = I 113 (Int.toNat k) ∧ I 55 (5000 + Int.toNat (I 10 (Int.toNat (I 113 (Int.toNat k))))) ≤ 0) := ⟨(h.2 (Int.toNat k) (by omega)).1, (h.2 (Int.toNat k) (by omega)).2.1⟩
set_option maxHeartbeats 8000000 in
theorem gr_TRx_a {N : Int} {I : gr_I} (h : gr_TRx N I) {k a : Int} (hk : 0 ≤ k ∧ k < N) (h0 : 0 ≤ a) (ha : a < I 6 (Int.toNat (I 113 (Int.toNat k)))) : k < I 122 (Int.toNat (4 * k + a)) ∧ I 122 (Int.toNat (4 * k + a)) < N := by
  have g := (h.2 (Int.toNat k) (by exact gz_m 0 (by omega))).2.2 (Int.toNat a) (by exact gz_m 1 (by omega))
  rw [show 4 * Int.toNat k + Int.toNat a = Int.toNat (4 * k + a) from by exact gz_m 2 (by omega)] at g
  exact gz_m 3 (by omega)
set_option maxHeartbeats 8000000 in
set_option maxRecDepth 100000 in
theorem r_composed {ws0 : List Cond} {tb : String → gz_T} (hws : ∀ w ∈ gr_ws, w ∈ ws0) (htb : tb RX13 = gr_T) (ext : gz_Sh) (N9 : Int) : ∀ (nr : Nat) (I : gr_I) (J : gr_J) (hI : gr_Inv I) (a1 : Int) (a2 : Int) (ha1 : 0 ≤ a1 ∧ a1 ≤ 1999) (ha2 : 0 ≤ a2 ∧ a2 ≤ 59) (x0 : a1 < I 0 64) (x1 : a2 < N9) (x2 : I 55 (Int.toNat a1) = I 113 (Int.toNat a2)) (x3 : I 0 216 ≤ I 0 217) (x4 : I 0 217 - 300 ≤ I 0 216) (x5 : 300 ≤ I 0 217) (KTM_I : gr_TM I) (KTO_I : gr_TO I) (KTX_I : gr_TRx N9 I) (_ : (if I 0 218 = 1 then 0 else (I 0 217 - I 0 216) + (60 - a2) + 1).toNat < nr), ∃ r h', gz_Ev ws0 tb (1 + nr) (yX13_composed, cX13_composed, 6, (some .int)) [.inr (.inr (some 0)), .inl a1, .inl a2] (gr_sh ++ ext) (gr_h I J) r (gr_sh ++ ext) h' 0 0 ∧ (∃ (I' : gr_I) (J' : gr_J), h' = gr_h I' J' ∧ gr_Inv I' ∧ gr_fr [216, 218] [134, 135, 136, 137] I I' ∧ gr_fj [216, 218] [134, 135, 136, 137] J J' ∧ gr_TM I' ∧ gr_TO I' ∧ gr_TRx N9 I' ∧ (∃ z : Int, r = some (.inl z) ∧ 0 ≤ z ∧ z ≤ 1999 ∧ (I' 0 217 = I 0 217) ∧ (I 0 216 ≤ I' 0 216) ∧ (I' 0 216 ≤ I' 0 217) ∧ (I 0 218 ≤ I' 0 218) ∧ (gr_OC I I' z (I 55 (5000 + (Int.toNat a1))) 95))) := by
  intro nr
  induction nr with
  | zero => intro I J hI a1 a2 ha1 ha2 x0 x1 x2 x3 x4 x5 KTM_I KTO_I KTX_I hnr; exact gz_m 0 (by omega)
  | succ nr ihR =>
  intro I J hI a1 a2 ha1 ha2 x0 x1 x2 x3 x4 x5 KTM_I KTO_I KTX_I hnr
  have FI : gr_fr [216, 218] [134, 135, 136, 137] I I := fun _ _ _ => rfl
  have FJ : gr_fj [216, 218] [134, 135, 136, 137] J J := fun _ _ _ => rfl
  have hD : gv_D (gr_E ws0 tb (1 + nr) (yX13_composed, cX13_composed, 6, (some .int)) kX13_composed) := gq_of oX13_composed
  refine gr_ev (d := (1 + nr)) (l := kX13_composed) (Po := fun r h' => (∃ (I' : gr_I) (J' : gr_J), h' = gr_h I' J' ∧ gr_Inv I' ∧ gr_fr [216, 218] [134, 135, 136, 137] I I' ∧ gr_fj [216, 218] [134, 135, 136, 137] J J' ∧ gr_TM I' ∧ gr_TO I' ∧ gr_TRx N9 I' ∧ (∃ z : Int, r = some (.inl z) ∧ 0 ≤ z ∧ z ≤ 1999 ∧ (I' 0 217 = I 0 217) ∧ (I 0 216 ≤ I' 0 216) ∧ (I' 0 216 ≤ I' 0 217) ∧ (I 0 218 ≤ I' 0 218) ∧ (gr_OC I I' z (I 55 (5000 + (Int.toNat a1))) 95)))) htb rfl (Nat.le_of_ble_eq_true rfl) ?_
  have f1 := (gr_b_0_216 hI)
  have f2 := (gr_b_0_217 hI)
  have f3 := (gr_b_0_218 hI)
  have f4 := (gr_b_0_64 hI)
  have t5 := KTX_I.1
  have f6 := (gr_b_0_218 hI)
  refine gv_run 2 true hD (pc' := 4) (lv' := [(0, .inr (.inr (some 0))), (1, .inl a1), (2, .inl a2)]) (st' := [.inl (I 0 218)]) (h' := gr_h I J) (C := ((True ∧ True) ∧ True)) rfl ⟨⟨trivial, trivial⟩, trivial⟩ ?_
  refine gv_if_eq (t := 9) hD rfl rfl ⟨by exact gz_m 1 (by omega), by exact gz_m 2 (by omega)⟩ (fun c7 => ?_) (fun c7 => ?_)
  · have f8 := (gr_b_52 hI (Int.toNat a1))
    refine gv_run 4 true hD (pc' := 15) (lv' := [(0, .inr (.inr (some 0))), (1, .inl a1), (2, .inl a2)]) (st' := [.inl (I 52 (Int.toNat a1))]) (h' := gr_h I J) (C := ((((True ∧ True) ∧ True) ∧ True) ∧ (0 ≤ a1 ∧ a1 < ((5000 : Nat) : Int)))) rfl ⟨⟨⟨⟨trivial, trivial⟩, trivial⟩, trivial⟩, ⟨by exact gz_m 3 (by omega), by exact gz_m 4 (by omega)⟩⟩ ?_
    by_cases c9 : ((I 52 (Int.toNat a1))) = 0
    · refine gv_tabAt hD 0 rfl ⟨by exact gz_m 5 (by omega), by exact gz_m 6 (by omega)⟩ c9 ⟨by decide, by decide⟩ rfl (t := 48) rfl ?_
      have t10 := (KTO_I (Int.toNat a1) (by exact gz_m 7 (by omega))).2.2.2.1 (by exact gz_m 8 (by omega))
      have t11 := (KTM_I (Int.toNat a1) (by exact gz_m 9 (by omega))).1 (by exact gz_m 10 (by omega))
      have t12 := (gr_b_55 hI (5000 + (Int.toNat a1)))
      refine gv_run 5 true hD (pc' := 53) (lv' := [(0, .inr (.inr (some 0))), (1, .inl a1), (2, .inl a2)]) (st' := [.inr (.inl (Int64.ofNat 0)), .inl 0, .inl 0, .inl 0, .inr (.inr (some 0))]) (h' := gr_h I J) (C := (((((True ∧ True) ∧ True) ∧ True) ∧ True) ∧ True)) rfl ⟨⟨⟨⟨⟨trivial, trivial⟩, trivial⟩, trivial⟩, trivial⟩, trivial⟩ ?_
      obtain ⟨r13, h13, E13, P13⟩ := r_heap_w (ws0 := ws0) (tb := tb) hws htb ext I J hI 0 0 0 (Int64.ofNat 0) ⟨by exact gz_m 11 (by omega), by exact gz_m 12 (by omega)⟩ ⟨by exact gz_m 13 (by omega), by exact gz_m 14 (by omega)⟩ ⟨by exact gz_m 15 (by omega), by exact gz_m 16 (by omega)⟩ (by exact gz_m 17 (by omega)) (by exact gz_m 18 (by omega)) (by exact gz_m 19 (by omega))
      obtain ⟨I14, J15, rfl, hI14, g13, k13, ⟨z13, rfl, q13⟩⟩ := P13
      have FI14 := gr_frt FI g13 rfl rfl
      have FJ15 := gr_fjt FJ k13 rfl rfl
      have t16 := g13 0 217 rfl
      have t17 := g13 0 64 rfl
      have f18 := (gr_b_0_216 hI14)
      have f19 := (gr_b_0_217 hI14)
      have f20 := (gr_b_0_218 hI14)
      have f21 := (gr_b_0_64 hI14)
      have KTM_I14 := gr_TM_fr KTM_I (fun k => g13 52 k rfl) (fun k => g13 53 k rfl) (fun k => g13 54 k rfl) (g13 0 64 rfl)
      have KTO_I14 := gr_TO_fr KTO_I (fun k => g13 52 k rfl) (fun k => g13 53 k rfl) (fun k => g13 54 k rfl) (fun k => g13 55 k rfl) (fun k => g13 6 k rfl) (g13 0 64 rfl) (g13 0 3 rfl)
      have KTX_I14 := gr_TRx_fr KTX_I (fun k => g13 113 k rfl) (fun k => g13 10 k rfl) (fun k => g13 55 k rfl) (fun k => g13 6 k rfl) (fun k => g13 122 k rfl) (g13 0 3 rfl) (g13 0 64 rfl)
      refine gv_callV hD rfl (As := [.inl 0, .inl 0, .inl 0, .inr (.inl (Int64.ofNat 0))]) (st := []) rfl (by decide) rfl rfl (gr_lV hws rfl) (Nat.le_of_ble_eq_true rfl) (gz_Ev_mono (d := 1) (by exact gz_m 20 (by omega)) E13) ?_
      show gv_X _ _ (56, [(0, .inr (.inr (some 0))), (1, .inl a1), (2, .inl a2)], [.inl z13], gr_sh ++ ext, gr_h I14 J15)
      have f22 := (gr_b_53 hI14 (Int.toNat a1))
      refine gv_run 6 true hD (pc' := 64) (lv' := [(3, .inl z13), (0, .inr (.inr (some 0))), (1, .inl a1), (2, .inl a2)]) (st' := [.inl (I14 53 (Int.toNat a1)), .inr (.inr (some 0))]) (h' := gr_h I14 J15) (C := ((((((True ∧ True) ∧ True) ∧ True) ∧ True) ∧ True) ∧ (0 ≤ a1 ∧ a1 < ((5000 : Nat) : Int)))) rfl ⟨⟨⟨⟨⟨⟨trivial, trivial⟩, trivial⟩, trivial⟩, trivial⟩, trivial⟩, ⟨by exact gz_m 21 (by omega), by exact gz_m 22 (by omega)⟩⟩ ?_
      rw [FI14 53 (Int.toNat a1) rfl]
      have f23 := (gr_b_53 hI (Int.toNat a1))
      refine gv_run 1 true hD (pc' := 65) (lv' := [(3, .inl z13), (0, .inr (.inr (some 0))), (1, .inl a1), (2, .inl a2)]) (st' := [.inl a2, .inl (I 53 (Int.toNat a1)), .inr (.inr (some 0))]) (h' := gr_h I14 J15) (C := (True ∧ True)) rfl ⟨trivial, trivial⟩ ?_
      obtain ⟨r24, h24, E24, P24⟩ := ihR I14 J15 hI14 ((I 53 (Int.toNat a1))) a2 ⟨by exact gz_m 23 (by omega), by exact gz_m 24 (by omega)⟩ ⟨by exact gz_m 25 (by omega), by exact gz_m 26 (by omega)⟩ (by exact gz_m 27 (by omega)) (by exact gz_m 28 (by omega)) (by rw [FI14 55 _ rfl, FI14 113 _ rfl]; exact gz_m 29 (by omega)) (by exact gz_m 30 (by omega)) (by exact gz_m 31 (by omega)) (by exact gz_m 32 (by omega)) KTM_I14 KTO_I14 KTX_I14 (by exact gz_m 33 (by omega))
      obtain ⟨I25, J26, rfl, hI25, g24, k24, KTM_I25, KTO_I25, KTX_I25, ⟨z24, rfl, q24⟩⟩ := P24
      have FI25 := gr_frt FI14 g24 rfl rfl
      have FJ26 := gr_fjt FJ15 k24 rfl rfl
      have t27 := g24 0 217 rfl
      have t28 := g24 0 64 rfl
      have f29 := (gr_b_0_216 hI25)
      have f30 := (gr_b_0_217 hI25)
      have f31 := (gr_b_0_218 hI25)
      have f32 := (gr_b_0_64 hI25)
      refine gv_callV hD rfl (As := [.inl (I 53 (Int.toNat a1)), .inl a2]) (st := []) rfl (by decide) rfl rfl (gr_lV hws rfl) (Nat.le_of_ble_eq_true rfl) (gz_Ev_mono (d := (1 + nr)) (Nat.le_refl _) E24) ?_
      show gv_X _ _ (68, [(3, .inl z13), (0, .inr (.inr (some 0))), (1, .inl a1), (2, .inl a2)], [.inl z24], gr_sh ++ ext, gr_h I25 J26)
      refine gv_run 5 true hD (pc' := 77) (lv' := [(4, .inl z24), (3, .inl z13), (0, .inr (.inr (some 0))), (1, .inl a1), (2, .inl a2)]) (st' := [.inl z24, .inl z13, .inr (.inr (some 135))]) (h' := gr_h I25 J26) (C := (((((True ∧ True) ∧ True) ∧ True) ∧ True) ∧ True)) rfl ⟨⟨⟨⟨⟨trivial, trivial⟩, trivial⟩, trivial⟩, trivial⟩, trivial⟩ ?_
      refine gv_run 1 true hD (pc' := 78) (lv' := [(4, .inl z24), (3, .inl z13), (0, .inr (.inr (some 0))), (1, .inl a1), (2, .inl a2)]) (st' := []) (h' := gz_up (gr_h I25 J26) 135 (Int.toNat z13) (.inl z24)) (C := (True ∧ (0 ≤ z13 ∧ z13 < ((2000 : Nat) : Int)))) rfl ⟨trivial, ⟨by exact gz_m 34 (by omega), by exact gz_m 35 (by omega)⟩⟩ ?_
      refine gr_st hI25 FI25 rfl rfl ⟨⟨by show (-2147483648) ≤ _; exact gz_m 36 (by omega), by show _ ≤ 2147483647; exact gz_m 37 (by omega)⟩, trivial⟩ (fun I33 hI33 FI33 q34 p34 => ?_)
      have t35 := p34 0 216 (fun q => absurd q.1 (by decide))
      have t36 := p34 0 217 (fun q => absurd q.1 (by decide))
      have t37 := p34 0 218 (fun q => absurd q.1 (by decide))
      have t38 := p34 0 64 (fun q => absurd q.1 (by decide))
      have f39 := (gr_b_0_216 hI33)
      have f40 := (gr_b_0_217 hI33)
      have f41 := (gr_b_0_218 hI33)
      have f42 := (gr_b_0_64 hI33)
      have KTM_I33 := gr_TM_fr KTM_I25 (fun k => p34 52 k (fun q => absurd q.1 (by decide))) (fun k => p34 53 k (fun q => absurd q.1 (by decide))) (fun k => p34 54 k (fun q => absurd q.1 (by decide))) (p34 0 64 (fun q => absurd q.1 (by decide)))
      have KTO_I33 := gr_TO_fr KTO_I25 (fun k => p34 52 k (fun q => absurd q.1 (by decide))) (fun k => p34 53 k (fun q => absurd q.1 (by decide))) (fun k => p34 54 k (fun q => absurd q.1 (by decide))) (fun k => p34 55 k (fun q => absurd q.1 (by decide))) (fun k => p34 6 k (fun q => absurd q.1 (by decide))) (p34 0 64 (fun q => absurd q.1 (by decide))) (p34 0 3 (fun q => absurd q.1 (by decide)))
      have KTX_I33 := gr_TRx_fr KTX_I25 (fun k => p34 113 k (fun q => absurd q.1 (by decide))) (fun k => p34 10 k (fun q => absurd q.1 (by decide))) (fun k => p34 55 k (fun q => absurd q.1 (by decide))) (fun k => p34 6 k (fun q => absurd q.1 (by decide))) (fun k => p34 122 k (fun q => absurd q.1 (by decide))) (p34 0 3 (fun q => absurd q.1 (by decide))) (p34 0 64 (fun q => absurd q.1 (by decide)))
      refine gr_gst (a := 137) (k := (Int.toNat z13)) (z := ((I33 0 216) - (I 0 216))) hI33 FI33 rfl rfl ⟨⟨by show 0 ≤ _; exact gz_m 38 (by omega), by show _ ≤ 2000000; exact gz_m 39 (by omega)⟩, trivial⟩ (fun I43 hI43 FI43 q44 p44 => ?_)
      have t45 := p44 0 216 (fun q => absurd q.1 (by decide))
      have t46 := p44 0 217 (fun q => absurd q.1 (by decide))
      have t47 := p44 0 218 (fun q => absurd q.1 (by decide))
      have t48 := p44 0 64 (fun q => absurd q.1 (by decide))
      have f49 := (gr_b_0_216 hI43)
      have f50 := (gr_b_0_217 hI43)
      have f51 := (gr_b_0_218 hI43)
      have f52 := (gr_b_0_64 hI43)
      have KTM_I43 := gr_TM_fr KTM_I33 (fun k => p44 52 k (fun q => absurd q.1 (by decide))) (fun k => p44 53 k (fun q => absurd q.1 (by decide))) (fun k => p44 54 k (fun q => absurd q.1 (by decide))) (p44 0 64 (fun q => absurd q.1 (by decide)))
      have KTO_I43 := gr_TO_fr KTO_I33 (fun k => p44 52 k (fun q => absurd q.1 (by decide))) (fun k => p44 53 k (fun q => absurd q.1 (by decide))) (fun k => p44 54 k (fun q => absurd q.1 (by decide))) (fun k => p44 55 k (fun q => absurd q.1 (by decide))) (fun k => p44 6 k (fun q => absurd q.1 (by decide))) (p44 0 64 (fun q => absurd q.1 (by decide))) (p44 0 3 (fun q => absurd q.1 (by decide)))
      have KTX_I43 := gr_TRx_fr KTX_I33 (fun k => p44 113 k (fun q => absurd q.1 (by decide))) (fun k => p44 10 k (fun q => absurd q.1 (by decide))) (fun k => p44 55 k (fun q => absurd q.1 (by decide))) (fun k => p44 6 k (fun q => absurd q.1 (by decide))) (fun k => p44 122 k (fun q => absurd q.1 (by decide))) (p44 0 3 (fun q => absurd q.1 (by decide))) (p44 0 64 (fun q => absurd q.1 (by decide)))
      refine gr_gst (a := 137) (k := (5000 + Int.toNat z13)) (z := (I 55 (5000 + (Int.toNat a1)))) hI43 FI43 rfl rfl ⟨⟨by show 0 ≤ _; exact gz_m 40 (by omega), by show _ ≤ 2000000; exact gz_m 41 (by omega)⟩, trivial⟩ (fun I53 hI53 FI53 q54 p54 => ?_)
      have t55 := p54 0 216 (fun q => absurd q.1 (by decide))
      have t56 := p54 0 217 (fun q => absurd q.1 (by decide))
      have t57 := p54 0 218 (fun q => absurd q.1 (by decide))
      have t58 := p54 0 64 (fun q => absurd q.1 (by decide))
      have f59 := (gr_b_0_216 hI53)
      have f60 := (gr_b_0_217 hI53)
      have f61 := (gr_b_0_218 hI53)
      have f62 := (gr_b_0_64 hI53)
      have KTM_I53 := gr_TM_fr KTM_I43 (fun k => p54 52 k (fun q => absurd q.1 (by decide))) (fun k => p54 53 k (fun q => absurd q.1 (by decide))) (fun k => p54 54 k (fun q => absurd q.1 (by decide))) (p54 0 64 (fun q => absurd q.1 (by decide)))
      have KTO_I53 := gr_TO_fr KTO_I43 (fun k => p54 52 k (fun q => absurd q.1 (by decide))) (fun k => p54 53 k (fun q => absurd q.1 (by decide))) (fun k => p54 54 k (fun q => absurd q.1 (by decide))) (fun k => p54 55 k (fun q => absurd q.1 (by decide))) (fun k => p54 6 k (fun q => absurd q.1 (by decide))) (p54 0 64 (fun q => absurd q.1 (by decide))) (p54 0 3 (fun q => absurd q.1 (by decide)))
      have KTX_I53 := gr_TRx_fr KTX_I43 (fun k => p54 113 k (fun q => absurd q.1 (by decide))) (fun k => p54 10 k (fun q => absurd q.1 (by decide))) (fun k => p54 55 k (fun q => absurd q.1 (by decide))) (fun k => p54 6 k (fun q => absurd q.1 (by decide))) (fun k => p54 122 k (fun q => absurd q.1 (by decide))) (p54 0 3 (fun q => absurd q.1 (by decide))) (p54 0 64 (fun q => absurd q.1 (by decide)))
      refine gv_run 1 true hD (pc' := 79) (lv' := [(4, .inl z24), (3, .inl z13), (0, .inr (.inr (some 0))), (1, .inl a1), (2, .inl a2)]) (st' := [.inl z13]) (h' := gr_h I53 J26) (C := (True ∧ True)) rfl ⟨trivial, trivial⟩ ?_
      exact gv_iret hD rfl ⟨I53, J26, rfl, hI53, FI53, FJ26, KTM_I53, KTO_I53, KTX_I53, ⟨_, rfl, by exact gz_m 42 (by omega), by exact gz_m 43 (by omega), by exact gz_m 44 (by omega), by exact gz_m 45 (by omega), by exact gz_m 46 (by omega), by exact gz_m 47 (by omega), (gr_oc0 q13.2.2.2.2.2.2.1 (gr_OC_w q24.2.2.2.2.2.2 (by rw [FI14 55 _ rfl]; exact gz_m 48 (by omega)) (Int.le_refl _)) p34 q34 (gr_GS_of p44 q44 p54 q54) (by exact gz_m 49 (by omega)) ⟨by exact gz_m 50 (by omega), by exact gz_m 51 (by omega)⟩ (by exact gz_m 52 (by omega)) (by exact gz_m 53 (by omega)) (by exact gz_m 54 (by omega)) (by exact gz_m 55 (by omega)))⟩⟩
    by_cases c63 : ((I 52 (Int.toNat a1))) = 1
    · refine gv_tabAt hD 1 rfl ⟨by exact gz_m 56 (by omega), by exact gz_m 57 (by omega)⟩ c63 ⟨by decide, by decide⟩ rfl (t := 166) rfl ?_
      have t64 := (gr_b_55 hI (5000 + (Int.toNat a1)))
      have t65 := (KTO_I (Int.toNat a1) (by exact gz_m 58 (by omega))).2.2.1
      have t66 := (gr_b_52 hI (Int.toNat a1))
      have f67 := (gr_b_52 hI (Int.toNat a1))
      refine gv_run 5 true hD (pc' := 173) (lv' := [(0, .inr (.inr (some 0))), (1, .inl a1), (2, .inl a2)]) (st' := [.inl (I 52 (Int.toNat a1)), .inr (.inr (some 0))]) (h' := gr_h I J) (C := (((((True ∧ True) ∧ True) ∧ True) ∧ True) ∧ (0 ≤ a1 ∧ a1 < ((5000 : Nat) : Int)))) rfl ⟨⟨⟨⟨⟨trivial, trivial⟩, trivial⟩, trivial⟩, trivial⟩, ⟨by exact gz_m 59 (by omega), by exact gz_m 60 (by omega)⟩⟩ ?_
      have f68 := (gr_b_53 hI (Int.toNat a1))
      refine gv_run 4 true hD (pc' := 179) (lv' := [(0, .inr (.inr (some 0))), (1, .inl a1), (2, .inl a2)]) (st' := [.inl (I 53 (Int.toNat a1)), .inl (I 52 (Int.toNat a1)), .inr (.inr (some 0))]) (h' := gr_h I J) (C := ((((True ∧ True) ∧ True) ∧ True) ∧ (0 ≤ a1 ∧ a1 < ((5000 : Nat) : Int)))) rfl ⟨⟨⟨⟨trivial, trivial⟩, trivial⟩, trivial⟩, ⟨by exact gz_m 61 (by omega), by exact gz_m 62 (by omega)⟩⟩ ?_
      refine gv_run 5 true hD (pc' := 186) (lv' := [(0, .inr (.inr (some 0))), (1, .inl a1), (2, .inl a2)]) (st' := [.inr (.inl (J 55 (Int.toNat a1))), .inl 0, .inl (I 53 (Int.toNat a1)), .inl (I 52 (Int.toNat a1)), .inr (.inr (some 0))]) (h' := gr_h I J) (C := (((((True ∧ True) ∧ True) ∧ True) ∧ True) ∧ (0 ≤ a1 ∧ a1 < ((5000 : Nat) : Int)))) rfl ⟨⟨⟨⟨⟨trivial, trivial⟩, trivial⟩, trivial⟩, trivial⟩, ⟨by exact gz_m 63 (by omega), by exact gz_m 64 (by omega)⟩⟩ ?_
      obtain ⟨r69, h69, E69, P69⟩ := r_heap_w (ws0 := ws0) (tb := tb) hws htb ext I J hI ((I 52 (Int.toNat a1))) ((I 53 (Int.toNat a1))) 0 ((J 55 (Int.toNat a1))) ⟨by exact gz_m 65 (by omega), by exact gz_m 66 (by omega)⟩ ⟨by exact gz_m 67 (by omega), by exact gz_m 68 (by omega)⟩ ⟨by exact gz_m 69 (by omega), by exact gz_m 70 (by omega)⟩ (by exact gz_m 71 (by omega)) (by exact gz_m 72 (by omega)) (by exact gz_m 73 (by omega))
      obtain ⟨I70, J71, rfl, hI70, g69, k69, ⟨z69, rfl, q69⟩⟩ := P69
      have FI70 := gr_frt FI g69 rfl rfl
      have FJ71 := gr_fjt FJ k69 rfl rfl
      have t72 := g69 0 217 rfl
      have t73 := g69 0 64 rfl
      have f74 := (gr_b_0_216 hI70)
      have f75 := (gr_b_0_217 hI70)
      have f76 := (gr_b_0_218 hI70)
      have f77 := (gr_b_0_64 hI70)
      have KTM_I70 := gr_TM_fr KTM_I (fun k => g69 52 k rfl) (fun k => g69 53 k rfl) (fun k => g69 54 k rfl) (g69 0 64 rfl)
      have KTO_I70 := gr_TO_fr KTO_I (fun k => g69 52 k rfl) (fun k => g69 53 k rfl) (fun k => g69 54 k rfl) (fun k => g69 55 k rfl) (fun k => g69 6 k rfl) (g69 0 64 rfl) (g69 0 3 rfl)
      have KTX_I70 := gr_TRx_fr KTX_I (fun k => g69 113 k rfl) (fun k => g69 10 k rfl) (fun k => g69 55 k rfl) (fun k => g69 6 k rfl) (fun k => g69 122 k rfl) (g69 0 3 rfl) (g69 0 64 rfl)
      refine gv_callV hD rfl (As := [.inl (I 52 (Int.toNat a1)), .inl (I 53 (Int.toNat a1)), .inl 0, .inr (.inl (J 55 (Int.toNat a1)))]) (st := []) rfl (by decide) rfl rfl (gr_lV hws rfl) (Nat.le_of_ble_eq_true rfl) (gz_Ev_mono (d := 1) (by exact gz_m 74 (by omega)) E69) ?_
      show gv_X _ _ (189, [(0, .inr (.inr (some 0))), (1, .inl a1), (2, .inl a2)], [.inl z69], gr_sh ++ ext, gr_h I70 J71)
      refine gr_gst (a := 137) (k := (Int.toNat z69)) (z := ((I70 0 216) - (I 0 216))) hI70 FI70 rfl rfl ⟨⟨by show 0 ≤ _; exact gz_m 75 (by omega), by show _ ≤ 2000000; exact gz_m 76 (by omega)⟩, trivial⟩ (fun I78 hI78 FI78 q79 p79 => ?_)
      have t80 := p79 0 216 (fun q => absurd q.1 (by decide))
      have t81 := p79 0 217 (fun q => absurd q.1 (by decide))
      have t82 := p79 0 218 (fun q => absurd q.1 (by decide))
      have t83 := p79 0 64 (fun q => absurd q.1 (by decide))
      have f84 := (gr_b_0_216 hI78)
      have f85 := (gr_b_0_217 hI78)
      have f86 := (gr_b_0_218 hI78)
      have f87 := (gr_b_0_64 hI78)
      have KTM_I78 := gr_TM_fr KTM_I70 (fun k => p79 52 k (fun q => absurd q.1 (by decide))) (fun k => p79 53 k (fun q => absurd q.1 (by decide))) (fun k => p79 54 k (fun q => absurd q.1 (by decide))) (p79 0 64 (fun q => absurd q.1 (by decide)))
      have KTO_I78 := gr_TO_fr KTO_I70 (fun k => p79 52 k (fun q => absurd q.1 (by decide))) (fun k => p79 53 k (fun q => absurd q.1 (by decide))) (fun k => p79 54 k (fun q => absurd q.1 (by decide))) (fun k => p79 55 k (fun q => absurd q.1 (by decide))) (fun k => p79 6 k (fun q => absurd q.1 (by decide))) (p79 0 64 (fun q => absurd q.1 (by decide))) (p79 0 3 (fun q => absurd q.1 (by decide)))
      have KTX_I78 := gr_TRx_fr KTX_I70 (fun k => p79 113 k (fun q => absurd q.1 (by decide))) (fun k => p79 10 k (fun q => absurd q.1 (by decide))) (fun k => p79 55 k (fun q => absurd q.1 (by decide))) (fun k => p79 6 k (fun q => absurd q.1 (by decide))) (fun k => p79 122 k (fun q => absurd q.1 (by decide))) (p79 0 3 (fun q => absurd q.1 (by decide))) (p79 0 64 (fun q => absurd q.1 (by decide)))
      refine gr_gst (a := 137) (k := (5000 + Int.toNat z69)) (z := (I 55 (5000 + (Int.toNat a1)))) hI78 FI78 rfl rfl ⟨⟨by show 0 ≤ _; exact gz_m 77 (by omega), by show _ ≤ 2000000; exact gz_m 78 (by omega)⟩, trivial⟩ (fun I88 hI88 FI88 q89 p89 => ?_)
      have t90 := p89 0 216 (fun q => absurd q.1 (by decide))
      have t91 := p89 0 217 (fun q => absurd q.1 (by decide))
      have t92 := p89 0 218 (fun q => absurd q.1 (by decide))
      have t93 := p89 0 64 (fun q => absurd q.1 (by decide))
      have f94 := (gr_b_0_216 hI88)
      have f95 := (gr_b_0_217 hI88)
      have f96 := (gr_b_0_218 hI88)
      have f97 := (gr_b_0_64 hI88)
      have KTM_I88 := gr_TM_fr KTM_I78 (fun k => p89 52 k (fun q => absurd q.1 (by decide))) (fun k => p89 53 k (fun q => absurd q.1 (by decide))) (fun k => p89 54 k (fun q => absurd q.1 (by decide))) (p89 0 64 (fun q => absurd q.1 (by decide)))
      have KTO_I88 := gr_TO_fr KTO_I78 (fun k => p89 52 k (fun q => absurd q.1 (by decide))) (fun k => p89 53 k (fun q => absurd q.1 (by decide))) (fun k => p89 54 k (fun q => absurd q.1 (by decide))) (fun k => p89 55 k (fun q => absurd q.1 (by decide))) (fun k => p89 6 k (fun q => absurd q.1 (by decide))) (p89 0 64 (fun q => absurd q.1 (by decide))) (p89 0 3 (fun q => absurd q.1 (by decide)))
      have KTX_I88 := gr_TRx_fr KTX_I78 (fun k => p89 113 k (fun q => absurd q.1 (by decide))) (fun k => p89 10 k (fun q => absurd q.1 (by decide))) (fun k => p89 55 k (fun q => absurd q.1 (by decide))) (fun k => p89 6 k (fun q => absurd q.1 (by decide))) (fun k => p89 122 k (fun q => absurd q.1 (by decide))) (p89 0 3 (fun q => absurd q.1 (by decide))) (p89 0 64 (fun q => absurd q.1 (by decide)))
      exact gv_iret hD rfl ⟨I88, J71, rfl, hI88, FI88, FJ71, KTM_I88, KTO_I88, KTX_I88, ⟨_, rfl, by exact gz_m 79 (by omega), by exact gz_m 80 (by omega), by exact gz_m 81 (by omega), by exact gz_m 82 (by omega), by exact gz_m 83 (by omega), by exact gz_m 84 (by omega), ((gr_ocl q69.2.2.2.2.2.2.1 (gr_GS_of p79 q79 p89 q89) (by exact gz_m 85 (by omega)) (by exact gz_m 86 (by omega)) ⟨by exact gz_m 87 (by omega), by exact gz_m 88 (by omega)⟩ (by exact gz_m 89 (by omega)) (by exact gz_m 90 (by omega)) (by exact gz_m 91 (by omega)) (by exact gz_m 92 (by omega))).2)⟩⟩
    by_cases c98 : ((I 52 (Int.toNat a1))) = 2
    · refine gv_tabAt hD 2 rfl ⟨by exact gz_m 93 (by omega), by exact gz_m 94 (by omega)⟩ c98 ⟨by decide, by decide⟩ rfl (t := 166) rfl ?_
      have t99 := (gr_b_55 hI (5000 + (Int.toNat a1)))
      have t100 := (KTO_I (Int.toNat a1) (by exact gz_m 95 (by omega))).2.2.1
      have t101 := (gr_b_52 hI (Int.toNat a1))
      have f102 := (gr_b_52 hI (Int.toNat a1))
      refine gv_run 5 true hD (pc' := 173) (lv' := [(0, .inr (.inr (some 0))), (1, .inl a1), (2, .inl a2)]) (st' := [.inl (I 52 (Int.toNat a1)), .inr (.inr (some 0))]) (h' := gr_h I J) (C := (((((True ∧ True) ∧ True) ∧ True) ∧ True) ∧ (0 ≤ a1 ∧ a1 < ((5000 : Nat) : Int)))) rfl ⟨⟨⟨⟨⟨trivial, trivial⟩, trivial⟩, trivial⟩, trivial⟩, ⟨by exact gz_m 96 (by omega), by exact gz_m 97 (by omega)⟩⟩ ?_
      have f103 := (gr_b_53 hI (Int.toNat a1))
      refine gv_run 4 true hD (pc' := 179) (lv' := [(0, .inr (.inr (some 0))), (1, .inl a1), (2, .inl a2)]) (st' := [.inl (I 53 (Int.toNat a1)), .inl (I 52 (Int.toNat a1)), .inr (.inr (some 0))]) (h' := gr_h I J) (C := ((((True ∧ True) ∧ True) ∧ True) ∧ (0 ≤ a1 ∧ a1 < ((5000 : Nat) : Int)))) rfl ⟨⟨⟨⟨trivial, trivial⟩, trivial⟩, trivial⟩, ⟨by exact gz_m 98 (by omega), by exact gz_m 99 (by omega)⟩⟩ ?_
      refine gv_run 5 true hD (pc' := 186) (lv' := [(0, .inr (.inr (some 0))), (1, .inl a1), (2, .inl a2)]) (st' := [.inr (.inl (J 55 (Int.toNat a1))), .inl 0, .inl (I 53 (Int.toNat a1)), .inl (I 52 (Int.toNat a1)), .inr (.inr (some 0))]) (h' := gr_h I J) (C := (((((True ∧ True) ∧ True) ∧ True) ∧ True) ∧ (0 ≤ a1 ∧ a1 < ((5000 : Nat) : Int)))) rfl ⟨⟨⟨⟨⟨trivial, trivial⟩, trivial⟩, trivial⟩, trivial⟩, ⟨by exact gz_m 100 (by omega), by exact gz_m 101 (by omega)⟩⟩ ?_
      obtain ⟨r104, h104, E104, P104⟩ := r_heap_w (ws0 := ws0) (tb := tb) hws htb ext I J hI ((I 52 (Int.toNat a1))) ((I 53 (Int.toNat a1))) 0 ((J 55 (Int.toNat a1))) ⟨by exact gz_m 102 (by omega), by exact gz_m 103 (by omega)⟩ ⟨by exact gz_m 104 (by omega), by exact gz_m 105 (by omega)⟩ ⟨by exact gz_m 106 (by omega), by exact gz_m 107 (by omega)⟩ (by exact gz_m 108 (by omega)) (by exact gz_m 109 (by omega)) (by exact gz_m 110 (by omega))
      obtain ⟨I105, J106, rfl, hI105, g104, k104, ⟨z104, rfl, q104⟩⟩ := P104
      have FI105 := gr_frt FI g104 rfl rfl
      have FJ106 := gr_fjt FJ k104 rfl rfl
      have t107 := g104 0 217 rfl
      have t108 := g104 0 64 rfl
      have f109 := (gr_b_0_216 hI105)
      have f110 := (gr_b_0_217 hI105)
      have f111 := (gr_b_0_218 hI105)
      have f112 := (gr_b_0_64 hI105)
      have KTM_I105 := gr_TM_fr KTM_I (fun k => g104 52 k rfl) (fun k => g104 53 k rfl) (fun k => g104 54 k rfl) (g104 0 64 rfl)
      have KTO_I105 := gr_TO_fr KTO_I (fun k => g104 52 k rfl) (fun k => g104 53 k rfl) (fun k => g104 54 k rfl) (fun k => g104 55 k rfl) (fun k => g104 6 k rfl) (g104 0 64 rfl) (g104 0 3 rfl)
      have KTX_I105 := gr_TRx_fr KTX_I (fun k => g104 113 k rfl) (fun k => g104 10 k rfl) (fun k => g104 55 k rfl) (fun k => g104 6 k rfl) (fun k => g104 122 k rfl) (g104 0 3 rfl) (g104 0 64 rfl)
      refine gv_callV hD rfl (As := [.inl (I 52 (Int.toNat a1)), .inl (I 53 (Int.toNat a1)), .inl 0, .inr (.inl (J 55 (Int.toNat a1)))]) (st := []) rfl (by decide) rfl rfl (gr_lV hws rfl) (Nat.le_of_ble_eq_true rfl) (gz_Ev_mono (d := 1) (by exact gz_m 111 (by omega)) E104) ?_
      show gv_X _ _ (189, [(0, .inr (.inr (some 0))), (1, .inl a1), (2, .inl a2)], [.inl z104], gr_sh ++ ext, gr_h I105 J106)
      refine gr_gst (a := 137) (k := (Int.toNat z104)) (z := ((I105 0 216) - (I 0 216))) hI105 FI105 rfl rfl ⟨⟨by show 0 ≤ _; exact gz_m 112 (by omega), by show _ ≤ 2000000; exact gz_m 113 (by omega)⟩, trivial⟩ (fun I113 hI113 FI113 q114 p114 => ?_)
      have t115 := p114 0 216 (fun q => absurd q.1 (by decide))
      have t116 := p114 0 217 (fun q => absurd q.1 (by decide))
      have t117 := p114 0 218 (fun q => absurd q.1 (by decide))
      have t118 := p114 0 64 (fun q => absurd q.1 (by decide))
      have f119 := (gr_b_0_216 hI113)
      have f120 := (gr_b_0_217 hI113)
      have f121 := (gr_b_0_218 hI113)
      have f122 := (gr_b_0_64 hI113)
      have KTM_I113 := gr_TM_fr KTM_I105 (fun k => p114 52 k (fun q => absurd q.1 (by decide))) (fun k => p114 53 k (fun q => absurd q.1 (by decide))) (fun k => p114 54 k (fun q => absurd q.1 (by decide))) (p114 0 64 (fun q => absurd q.1 (by decide)))
      have KTO_I113 := gr_TO_fr KTO_I105 (fun k => p114 52 k (fun q => absurd q.1 (by decide))) (fun k => p114 53 k (fun q => absurd q.1 (by decide))) (fun k => p114 54 k (fun q => absurd q.1 (by decide))) (fun k => p114 55 k (fun q => absurd q.1 (by decide))) (fun k => p114 6 k (fun q => absurd q.1 (by decide))) (p114 0 64 (fun q => absurd q.1 (by decide))) (p114 0 3 (fun q => absurd q.1 (by decide)))
      have KTX_I113 := gr_TRx_fr KTX_I105 (fun k => p114 113 k (fun q => absurd q.1 (by decide))) (fun k => p114 10 k (fun q => absurd q.1 (by decide))) (fun k => p114 55 k (fun q => absurd q.1 (by decide))) (fun k => p114 6 k (fun q => absurd q.1 (by decide))) (fun k => p114 122 k (fun q => absurd q.1 (by decide))) (p114 0 3 (fun q => absurd q.1 (by decide))) (p114 0 64 (fun q => absurd q.1 (by decide)))
      refine gr_gst (a := 137) (k := (5000 + Int.toNat z104)) (z := (I 55 (5000 + (Int.toNat a1)))) hI113 FI113 rfl rfl ⟨⟨by show 0 ≤ _; exact gz_m 114 (by omega), by show _ ≤ 2000000; exact gz_m 115 (by omega)⟩, trivial⟩ (fun I123 hI123 FI123 q124 p124 => ?_)
      have t125 := p124 0 216 (fun q => absurd q.1 (by decide))
      have t126 := p124 0 217 (fun q => absurd q.1 (by decide))
      have t127 := p124 0 218 (fun q => absurd q.1 (by decide))
      have t128 := p124 0 64 (fun q => absurd q.1 (by decide))
      have f129 := (gr_b_0_216 hI123)
      have f130 := (gr_b_0_217 hI123)
      have f131 := (gr_b_0_218 hI123)
      have f132 := (gr_b_0_64 hI123)
      have KTM_I123 := gr_TM_fr KTM_I113 (fun k => p124 52 k (fun q => absurd q.1 (by decide))) (fun k => p124 53 k (fun q => absurd q.1 (by decide))) (fun k => p124 54 k (fun q => absurd q.1 (by decide))) (p124 0 64 (fun q => absurd q.1 (by decide)))
      have KTO_I123 := gr_TO_fr KTO_I113 (fun k => p124 52 k (fun q => absurd q.1 (by decide))) (fun k => p124 53 k (fun q => absurd q.1 (by decide))) (fun k => p124 54 k (fun q => absurd q.1 (by decide))) (fun k => p124 55 k (fun q => absurd q.1 (by decide))) (fun k => p124 6 k (fun q => absurd q.1 (by decide))) (p124 0 64 (fun q => absurd q.1 (by decide))) (p124 0 3 (fun q => absurd q.1 (by decide)))
      have KTX_I123 := gr_TRx_fr KTX_I113 (fun k => p124 113 k (fun q => absurd q.1 (by decide))) (fun k => p124 10 k (fun q => absurd q.1 (by decide))) (fun k => p124 55 k (fun q => absurd q.1 (by decide))) (fun k => p124 6 k (fun q => absurd q.1 (by decide))) (fun k => p124 122 k (fun q => absurd q.1 (by decide))) (p124 0 3 (fun q => absurd q.1 (by decide))) (p124 0 64 (fun q => absurd q.1 (by decide)))
      exact gv_iret hD rfl ⟨I123, J106, rfl, hI123, FI123, FJ106, KTM_I123, KTO_I123, KTX_I123, ⟨_, rfl, by exact gz_m 116 (by omega), by exact gz_m 117 (by omega), by exact gz_m 118 (by omega), by exact gz_m 119 (by omega), by exact gz_m 120 (by omega), by exact gz_m 121 (by omega), ((gr_ocl q104.2.2.2.2.2.2.1 (gr_GS_of p114 q114 p124 q124) (by exact gz_m 122 (by omega)) (by exact gz_m 123 (by omega)) ⟨by exact gz_m 124 (by omega), by exact gz_m 125 (by omega)⟩ (by exact gz_m 126 (by omega)) (by exact gz_m 127 (by omega)) (by exact gz_m 128 (by omega)) (by exact gz_m 129 (by omega))).2)⟩⟩
    by_cases c133 : ((I 52 (Int.toNat a1))) = 3
    · refine gv_tabAt hD 3 rfl ⟨by exact gz_m 130 (by omega), by exact gz_m 131 (by omega)⟩ c133 ⟨by decide, by decide⟩ rfl (t := 133) rfl ?_
      have t134 := (KTO_I (Int.toNat a1) (by exact gz_m 132 (by omega))).2.1 (by exact gz_m 133 (by omega))
      have t135 := (gr_b_55 hI (5000 + (Int.toNat a1)))
      have t136 := (show I 6 (Int.toNat (I 55 (Int.toNat a1))) = I 6 (Int.toNat (I 113 (Int.toNat a2))) from by rw [x2])
      have t137 := (gr_b_6 hI (Int.toNat (I 113 (Int.toNat a2))))
      refine gv_run 6 true hD (pc' := 141) (lv' := [(0, .inr (.inr (some 0))), (1, .inl a1), (2, .inl a2)]) (st' := [.inr (.inr (some 0)), .inl (4 * a2), .inr (.inr (some 122))]) (h' := gr_h I J) (C := ((((((True ∧ True) ∧ True) ∧ True) ∧ True) ∧ True) ∧ True)) rfl ⟨⟨⟨⟨⟨⟨trivial, trivial⟩, trivial⟩, trivial⟩, trivial⟩, trivial⟩, trivial⟩ ?_
      have t138 := (gr_b_53 hI (Int.toNat a1))
      have t139 := gr_TRx_a KTX_I (k := a2) (a := I 53 (Int.toNat a1)) ⟨by exact gz_m 134 (by omega), by exact gz_m 135 (by omega)⟩ (by exact gz_m 136 (by omega)) (by exact gz_m 137 (by omega))
      have f140 := (gr_b_53 hI (Int.toNat a1))
      refine gv_run 3 true hD (pc' := 146) (lv' := [(0, .inr (.inr (some 0))), (1, .inl a1), (2, .inl a2)]) (st' := [.inl (I 53 (Int.toNat a1)), .inl (4 * a2), .inr (.inr (some 122))]) (h' := gr_h I J) (C := (((True ∧ True) ∧ True) ∧ (0 ≤ a1 ∧ a1 < ((5000 : Nat) : Int)))) rfl ⟨⟨⟨trivial, trivial⟩, trivial⟩, ⟨by exact gz_m 138 (by omega), by exact gz_m 139 (by omega)⟩⟩ ?_
      have f141 := (gr_b_122 hI (Int.toNat (((4 * a2) + (I 53 (Int.toNat a1))))))
      refine gv_run 2 true hD (pc' := 148) (lv' := [(0, .inr (.inr (some 0))), (1, .inl a1), (2, .inl a2)]) (st' := [.inl (I 122 (Int.toNat (((4 * a2) + (I 53 (Int.toNat a1))))))]) (h' := gr_h I J) (C := ((True ∧ True) ∧ (0 ≤ (((4 * a2) + (I 53 (Int.toNat a1)))) ∧ (((4 * a2) + (I 53 (Int.toNat a1)))) < ((240 : Nat) : Int)))) rfl ⟨⟨trivial, trivial⟩, ⟨by exact gz_m 140 (by omega), by exact gz_m 141 (by omega)⟩⟩ ?_
      refine gv_run 1 true hD (pc' := 149) (lv' := [(3, .inl (I 122 (Int.toNat (((4 * a2) + (I 53 (Int.toNat a1))))))), (0, .inr (.inr (some 0))), (1, .inl a1), (2, .inl a2)]) (st' := []) (h' := gr_h I J) (C := (True ∧ True)) rfl ⟨trivial, trivial⟩ ?_
      have t142 := gr_TRx_b KTX_I (k := ((I 122 (Int.toNat (((4 * a2) + (I 53 (Int.toNat a1)))))))) ⟨by exact gz_m 142 (by omega), by exact gz_m 143 (by omega)⟩
      have f143 := (gr_b_113 hI (Int.toNat ((I 122 (Int.toNat (((4 * a2) + (I 53 (Int.toNat a1)))))))))
      refine gv_run 7 true hD (pc' := 160) (lv' := [(3, .inl (I 122 (Int.toNat (((4 * a2) + (I 53 (Int.toNat a1))))))), (0, .inr (.inr (some 0))), (1, .inl a1), (2, .inl a2)]) (st' := [.inl (I 113 (Int.toNat ((I 122 (Int.toNat (((4 * a2) + (I 53 (Int.toNat a1))))))))), .inr (.inr (some 10)), .inr (.inr (some 0))]) (h' := gr_h I J) (C := (((((((True ∧ True) ∧ True) ∧ True) ∧ True) ∧ True) ∧ True) ∧ (0 ≤ ((I 122 (Int.toNat (((4 * a2) + (I 53 (Int.toNat a1))))))) ∧ ((I 122 (Int.toNat (((4 * a2) + (I 53 (Int.toNat a1))))))) < ((2000 : Nat) : Int)))) rfl ⟨⟨⟨⟨⟨⟨⟨trivial, trivial⟩, trivial⟩, trivial⟩, trivial⟩, trivial⟩, trivial⟩, ⟨by exact gz_m 144 (by omega), by exact gz_m 145 (by omega)⟩⟩ ?_
      have f144 := (gr_b_10 hI (Int.toNat ((I 113 (Int.toNat ((I 122 (Int.toNat (((4 * a2) + (I 53 (Int.toNat a1))))))))))))
      refine gv_run 1 true hD (pc' := 161) (lv' := [(3, .inl (I 122 (Int.toNat (((4 * a2) + (I 53 (Int.toNat a1))))))), (0, .inr (.inr (some 0))), (1, .inl a1), (2, .inl a2)]) (st' := [.inl (I 10 (Int.toNat ((I 113 (Int.toNat ((I 122 (Int.toNat (((4 * a2) + (I 53 (Int.toNat a1)))))))))))), .inr (.inr (some 0))]) (h' := gr_h I J) (C := (True ∧ (0 ≤ ((I 113 (Int.toNat ((I 122 (Int.toNat (((4 * a2) + (I 53 (Int.toNat a1)))))))))) ∧ ((I 113 (Int.toNat ((I 122 (Int.toNat (((4 * a2) + (I 53 (Int.toNat a1)))))))))) < ((96 : Nat) : Int)))) rfl ⟨trivial, ⟨by exact gz_m 146 (by omega), by exact gz_m 147 (by omega)⟩⟩ ?_
      refine gv_run 1 true hD (pc' := 162) (lv' := [(3, .inl (I 122 (Int.toNat (((4 * a2) + (I 53 (Int.toNat a1))))))), (0, .inr (.inr (some 0))), (1, .inl a1), (2, .inl a2)]) (st' := [.inl (I 122 (Int.toNat (((4 * a2) + (I 53 (Int.toNat a1)))))), .inl (I 10 (Int.toNat ((I 113 (Int.toNat ((I 122 (Int.toNat (((4 * a2) + (I 53 (Int.toNat a1)))))))))))), .inr (.inr (some 0))]) (h' := gr_h I J) (C := (True ∧ True)) rfl ⟨trivial, trivial⟩ ?_
      obtain ⟨r145, h145, E145, P145⟩ := ihR I J hI ((I 10 (Int.toNat ((I 113 (Int.toNat ((I 122 (Int.toNat (((4 * a2) + (I 53 (Int.toNat a1))))))))))))) ((I 122 (Int.toNat (((4 * a2) + (I 53 (Int.toNat a1))))))) ⟨by exact gz_m 148 (by omega), by exact gz_m 149 (by omega)⟩ ⟨by exact gz_m 150 (by omega), by exact gz_m 151 (by omega)⟩ (by exact gz_m 152 (by omega)) (by exact gz_m 153 (by omega)) (by exact gz_m 154 (by omega)) (by exact gz_m 155 (by omega)) (by exact gz_m 156 (by omega)) (by exact gz_m 157 (by omega)) KTM_I KTO_I KTX_I (by exact gz_m 158 (by omega))
      obtain ⟨I146, J147, rfl, hI146, g145, k145, KTM_I146, KTO_I146, KTX_I146, ⟨z145, rfl, q145⟩⟩ := P145
      have FI146 := gr_frt FI g145 rfl rfl
      have FJ147 := gr_fjt FJ k145 rfl rfl
      have t148 := g145 0 217 rfl
      have t149 := g145 0 64 rfl
      have f150 := (gr_b_0_216 hI146)
      have f151 := (gr_b_0_217 hI146)
      have f152 := (gr_b_0_218 hI146)
      have f153 := (gr_b_0_64 hI146)
      refine gv_callV hD rfl (As := [.inl (I 10 (Int.toNat ((I 113 (Int.toNat ((I 122 (Int.toNat (((4 * a2) + (I 53 (Int.toNat a1)))))))))))), .inl (I 122 (Int.toNat (((4 * a2) + (I 53 (Int.toNat a1))))))]) (st := []) rfl (by decide) rfl rfl (gr_lV hws rfl) (Nat.le_of_ble_eq_true rfl) (gz_Ev_mono (d := (1 + nr)) (Nat.le_refl _) E145) ?_
      show gv_X _ _ (165, [(3, .inl (I 122 (Int.toNat (((4 * a2) + (I 53 (Int.toNat a1))))))), (0, .inr (.inr (some 0))), (1, .inl a1), (2, .inl a2)], [.inl z145], gr_sh ++ ext, gr_h I146 J147)
      exact gv_iret hD rfl ⟨I146, J147, rfl, hI146, FI146, FJ147, KTM_I146, KTO_I146, KTX_I146, ⟨_, rfl, by exact gz_m 159 (by omega), by exact gz_m 160 (by omega), by exact gz_m 161 (by omega), by exact gz_m 162 (by omega), by exact gz_m 163 (by omega), by exact gz_m 164 (by omega), (gr_OC_w q145.2.2.2.2.2.2 (by exact gz_m 165 (by omega)) (Int.le_refl _))⟩⟩
    by_cases c154 : ((I 52 (Int.toNat a1))) = 4
    · refine gv_tabAt hD 4 rfl ⟨by exact gz_m 166 (by omega), by exact gz_m 167 (by omega)⟩ c154 ⟨by decide, by decide⟩ rfl (t := 80) rfl ?_
      have t155 := (KTO_I (Int.toNat a1) (by exact gz_m 168 (by omega))).2.2.2.2 (by exact gz_m 169 (by omega))
      have t156 := (KTM_I (Int.toNat a1) (by exact gz_m 170 (by omega))).2 (by exact gz_m 171 (by omega))
      have t157 := (gr_b_55 hI (5000 + (Int.toNat a1)))
      refine gv_run 5 true hD (pc' := 85) (lv' := [(0, .inr (.inr (some 0))), (1, .inl a1), (2, .inl a2)]) (st' := [.inr (.inl (Int64.ofNat 0)), .inl 0, .inl 0, .inl 4, .inr (.inr (some 0))]) (h' := gr_h I J) (C := (((((True ∧ True) ∧ True) ∧ True) ∧ True) ∧ True)) rfl ⟨⟨⟨⟨⟨trivial, trivial⟩, trivial⟩, trivial⟩, trivial⟩, trivial⟩ ?_
      obtain ⟨r158, h158, E158, P158⟩ := r_heap_w (ws0 := ws0) (tb := tb) hws htb ext I J hI 4 0 0 (Int64.ofNat 0) ⟨by exact gz_m 172 (by omega), by exact gz_m 173 (by omega)⟩ ⟨by exact gz_m 174 (by omega), by exact gz_m 175 (by omega)⟩ ⟨by exact gz_m 176 (by omega), by exact gz_m 177 (by omega)⟩ (by exact gz_m 178 (by omega)) (by exact gz_m 179 (by omega)) (by exact gz_m 180 (by omega))
      obtain ⟨I159, J160, rfl, hI159, g158, k158, ⟨z158, rfl, q158⟩⟩ := P158
      have FI159 := gr_frt FI g158 rfl rfl
      have FJ160 := gr_fjt FJ k158 rfl rfl
      have t161 := g158 0 217 rfl
      have t162 := g158 0 64 rfl
      have f163 := (gr_b_0_216 hI159)
      have f164 := (gr_b_0_217 hI159)
      have f165 := (gr_b_0_218 hI159)
      have f166 := (gr_b_0_64 hI159)
      have KTM_I159 := gr_TM_fr KTM_I (fun k => g158 52 k rfl) (fun k => g158 53 k rfl) (fun k => g158 54 k rfl) (g158 0 64 rfl)
      have KTO_I159 := gr_TO_fr KTO_I (fun k => g158 52 k rfl) (fun k => g158 53 k rfl) (fun k => g158 54 k rfl) (fun k => g158 55 k rfl) (fun k => g158 6 k rfl) (g158 0 64 rfl) (g158 0 3 rfl)
      have KTX_I159 := gr_TRx_fr KTX_I (fun k => g158 113 k rfl) (fun k => g158 10 k rfl) (fun k => g158 55 k rfl) (fun k => g158 6 k rfl) (fun k => g158 122 k rfl) (g158 0 3 rfl) (g158 0 64 rfl)
      refine gv_callV hD rfl (As := [.inl 4, .inl 0, .inl 0, .inr (.inl (Int64.ofNat 0))]) (st := []) rfl (by decide) rfl rfl (gr_lV hws rfl) (Nat.le_of_ble_eq_true rfl) (gz_Ev_mono (d := 1) (by exact gz_m 181 (by omega)) E158) ?_
      show gv_X _ _ (88, [(0, .inr (.inr (some 0))), (1, .inl a1), (2, .inl a2)], [.inl z158], gr_sh ++ ext, gr_h I159 J160)
      have f167 := (gr_b_53 hI159 (Int.toNat a1))
      refine gv_run 6 true hD (pc' := 96) (lv' := [(3, .inl z158), (0, .inr (.inr (some 0))), (1, .inl a1), (2, .inl a2)]) (st' := [.inl (I159 53 (Int.toNat a1)), .inr (.inr (some 0))]) (h' := gr_h I159 J160) (C := ((((((True ∧ True) ∧ True) ∧ True) ∧ True) ∧ True) ∧ (0 ≤ a1 ∧ a1 < ((5000 : Nat) : Int)))) rfl ⟨⟨⟨⟨⟨⟨trivial, trivial⟩, trivial⟩, trivial⟩, trivial⟩, trivial⟩, ⟨by exact gz_m 182 (by omega), by exact gz_m 183 (by omega)⟩⟩ ?_
      rw [FI159 53 (Int.toNat a1) rfl]
      have f168 := (gr_b_53 hI (Int.toNat a1))
      refine gv_run 1 true hD (pc' := 97) (lv' := [(3, .inl z158), (0, .inr (.inr (some 0))), (1, .inl a1), (2, .inl a2)]) (st' := [.inl a2, .inl (I 53 (Int.toNat a1)), .inr (.inr (some 0))]) (h' := gr_h I159 J160) (C := (True ∧ True)) rfl ⟨trivial, trivial⟩ ?_
      obtain ⟨r169, h169, E169, P169⟩ := ihR I159 J160 hI159 ((I 53 (Int.toNat a1))) a2 ⟨by exact gz_m 184 (by omega), by exact gz_m 185 (by omega)⟩ ⟨by exact gz_m 186 (by omega), by exact gz_m 187 (by omega)⟩ (by exact gz_m 188 (by omega)) (by exact gz_m 189 (by omega)) (by rw [FI159 55 _ rfl, FI159 113 _ rfl]; exact gz_m 190 (by omega)) (by exact gz_m 191 (by omega)) (by exact gz_m 192 (by omega)) (by exact gz_m 193 (by omega)) KTM_I159 KTO_I159 KTX_I159 (by exact gz_m 194 (by omega))
      obtain ⟨I170, J171, rfl, hI170, g169, k169, KTM_I170, KTO_I170, KTX_I170, ⟨z169, rfl, q169⟩⟩ := P169
      have FI170 := gr_frt FI159 g169 rfl rfl
      have FJ171 := gr_fjt FJ160 k169 rfl rfl
      have t172 := g169 0 217 rfl
      have t173 := g169 0 64 rfl
      have f174 := (gr_b_0_216 hI170)
      have f175 := (gr_b_0_217 hI170)
      have f176 := (gr_b_0_218 hI170)
      have f177 := (gr_b_0_64 hI170)
      refine gv_callV hD rfl (As := [.inl (I 53 (Int.toNat a1)), .inl a2]) (st := []) rfl (by decide) rfl rfl (gr_lV hws rfl) (Nat.le_of_ble_eq_true rfl) (gz_Ev_mono (d := (1 + nr)) (Nat.le_refl _) E169) ?_
      show gv_X _ _ (100, [(3, .inl z158), (0, .inr (.inr (some 0))), (1, .inl a1), (2, .inl a2)], [.inl z169], gr_sh ++ ext, gr_h I170 J171)
      have f178 := (gr_b_54 hI170 (Int.toNat a1))
      refine gv_run 6 true hD (pc' := 109) (lv' := [(4, .inl z169), (3, .inl z158), (0, .inr (.inr (some 0))), (1, .inl a1), (2, .inl a2)]) (st' := [.inl (I170 54 (Int.toNat a1)), .inr (.inr (some 0))]) (h' := gr_h I170 J171) (C := ((((((True ∧ True) ∧ True) ∧ True) ∧ True) ∧ True) ∧ (0 ≤ a1 ∧ a1 < ((5000 : Nat) : Int)))) rfl ⟨⟨⟨⟨⟨⟨trivial, trivial⟩, trivial⟩, trivial⟩, trivial⟩, trivial⟩, ⟨by exact gz_m 195 (by omega), by exact gz_m 196 (by omega)⟩⟩ ?_
      rw [FI170 54 (Int.toNat a1) rfl]
      have f179 := (gr_b_54 hI (Int.toNat a1))
      refine gv_run 1 true hD (pc' := 110) (lv' := [(4, .inl z169), (3, .inl z158), (0, .inr (.inr (some 0))), (1, .inl a1), (2, .inl a2)]) (st' := [.inl a2, .inl (I 54 (Int.toNat a1)), .inr (.inr (some 0))]) (h' := gr_h I170 J171) (C := (True ∧ True)) rfl ⟨trivial, trivial⟩ ?_
      obtain ⟨r180, h180, E180, P180⟩ := ihR I170 J171 hI170 ((I 54 (Int.toNat a1))) a2 ⟨by exact gz_m 197 (by omega), by exact gz_m 198 (by omega)⟩ ⟨by exact gz_m 199 (by omega), by exact gz_m 200 (by omega)⟩ (by exact gz_m 201 (by omega)) (by exact gz_m 202 (by omega)) (by rw [FI170 55 _ rfl, FI170 113 _ rfl]; exact gz_m 203 (by omega)) (by exact gz_m 204 (by omega)) (by exact gz_m 205 (by omega)) (by exact gz_m 206 (by omega)) KTM_I170 KTO_I170 KTX_I170 (by exact gz_m 207 (by omega))
      obtain ⟨I181, J182, rfl, hI181, g180, k180, KTM_I181, KTO_I181, KTX_I181, ⟨z180, rfl, q180⟩⟩ := P180
      have FI181 := gr_frt FI170 g180 rfl rfl
      have FJ182 := gr_fjt FJ171 k180 rfl rfl
      have t183 := g180 0 217 rfl
      have t184 := g180 0 64 rfl
      have f185 := (gr_b_0_216 hI181)
      have f186 := (gr_b_0_217 hI181)
      have f187 := (gr_b_0_218 hI181)
      have f188 := (gr_b_0_64 hI181)
      refine gv_callV hD rfl (As := [.inl (I 54 (Int.toNat a1)), .inl a2]) (st := []) rfl (by decide) rfl rfl (gr_lV hws rfl) (Nat.le_of_ble_eq_true rfl) (gz_Ev_mono (d := (1 + nr)) (Nat.le_refl _) E180) ?_
      show gv_X _ _ (113, [(4, .inl z169), (3, .inl z158), (0, .inr (.inr (some 0))), (1, .inl a1), (2, .inl a2)], [.inl z180], gr_sh ++ ext, gr_h I181 J182)
      refine gv_run 5 true hD (pc' := 122) (lv' := [(5, .inl z180), (4, .inl z169), (3, .inl z158), (0, .inr (.inr (some 0))), (1, .inl a1), (2, .inl a2)]) (st' := [.inl z169, .inl z158, .inr (.inr (some 135))]) (h' := gr_h I181 J182) (C := (((((True ∧ True) ∧ True) ∧ True) ∧ True) ∧ True)) rfl ⟨⟨⟨⟨⟨trivial, trivial⟩, trivial⟩, trivial⟩, trivial⟩, trivial⟩ ?_
      refine gv_run 1 true hD (pc' := 123) (lv' := [(5, .inl z180), (4, .inl z169), (3, .inl z158), (0, .inr (.inr (some 0))), (1, .inl a1), (2, .inl a2)]) (st' := []) (h' := gz_up (gr_h I181 J182) 135 (Int.toNat z158) (.inl z169)) (C := (True ∧ (0 ≤ z158 ∧ z158 < ((2000 : Nat) : Int)))) rfl ⟨trivial, ⟨by exact gz_m 208 (by omega), by exact gz_m 209 (by omega)⟩⟩ ?_
      refine gr_st hI181 FI181 rfl rfl ⟨⟨by show (-2147483648) ≤ _; exact gz_m 210 (by omega), by show _ ≤ 2147483647; exact gz_m 211 (by omega)⟩, trivial⟩ (fun I189 hI189 FI189 q190 p190 => ?_)
      have t191 := p190 0 216 (fun q => absurd q.1 (by decide))
      have t192 := p190 0 217 (fun q => absurd q.1 (by decide))
      have t193 := p190 0 218 (fun q => absurd q.1 (by decide))
      have t194 := p190 0 64 (fun q => absurd q.1 (by decide))
      have f195 := (gr_b_0_216 hI189)
      have f196 := (gr_b_0_217 hI189)
      have f197 := (gr_b_0_218 hI189)
      have f198 := (gr_b_0_64 hI189)
      have KTM_I189 := gr_TM_fr KTM_I181 (fun k => p190 52 k (fun q => absurd q.1 (by decide))) (fun k => p190 53 k (fun q => absurd q.1 (by decide))) (fun k => p190 54 k (fun q => absurd q.1 (by decide))) (p190 0 64 (fun q => absurd q.1 (by decide)))
      have KTO_I189 := gr_TO_fr KTO_I181 (fun k => p190 52 k (fun q => absurd q.1 (by decide))) (fun k => p190 53 k (fun q => absurd q.1 (by decide))) (fun k => p190 54 k (fun q => absurd q.1 (by decide))) (fun k => p190 55 k (fun q => absurd q.1 (by decide))) (fun k => p190 6 k (fun q => absurd q.1 (by decide))) (p190 0 64 (fun q => absurd q.1 (by decide))) (p190 0 3 (fun q => absurd q.1 (by decide)))
      have KTX_I189 := gr_TRx_fr KTX_I181 (fun k => p190 113 k (fun q => absurd q.1 (by decide))) (fun k => p190 10 k (fun q => absurd q.1 (by decide))) (fun k => p190 55 k (fun q => absurd q.1 (by decide))) (fun k => p190 6 k (fun q => absurd q.1 (by decide))) (fun k => p190 122 k (fun q => absurd q.1 (by decide))) (p190 0 3 (fun q => absurd q.1 (by decide))) (p190 0 64 (fun q => absurd q.1 (by decide)))
      refine gv_run 4 true hD (pc' := 130) (lv' := [(5, .inl z180), (4, .inl z169), (3, .inl z158), (0, .inr (.inr (some 0))), (1, .inl a1), (2, .inl a2)]) (st' := [.inl z180, .inl z158, .inr (.inr (some 136))]) (h' := gr_h I189 J182) (C := ((((True ∧ True) ∧ True) ∧ True) ∧ True)) rfl ⟨⟨⟨⟨trivial, trivial⟩, trivial⟩, trivial⟩, trivial⟩ ?_
      refine gv_run 1 true hD (pc' := 131) (lv' := [(5, .inl z180), (4, .inl z169), (3, .inl z158), (0, .inr (.inr (some 0))), (1, .inl a1), (2, .inl a2)]) (st' := []) (h' := gz_up (gr_h I189 J182) 136 (Int.toNat z158) (.inl z180)) (C := (True ∧ (0 ≤ z158 ∧ z158 < ((2000 : Nat) : Int)))) rfl ⟨trivial, ⟨by exact gz_m 212 (by omega), by exact gz_m 213 (by omega)⟩⟩ ?_
      refine gr_st hI189 FI189 rfl rfl ⟨⟨by show (-2147483648) ≤ _; exact gz_m 214 (by omega), by show _ ≤ 2147483647; exact gz_m 215 (by omega)⟩, trivial⟩ (fun I199 hI199 FI199 q200 p200 => ?_)
      have t201 := p200 0 216 (fun q => absurd q.1 (by decide))
      have t202 := p200 0 217 (fun q => absurd q.1 (by decide))
      have t203 := p200 0 218 (fun q => absurd q.1 (by decide))
      have t204 := p200 0 64 (fun q => absurd q.1 (by decide))
      have f205 := (gr_b_0_216 hI199)
      have f206 := (gr_b_0_217 hI199)
      have f207 := (gr_b_0_218 hI199)
      have f208 := (gr_b_0_64 hI199)
      have KTM_I199 := gr_TM_fr KTM_I189 (fun k => p200 52 k (fun q => absurd q.1 (by decide))) (fun k => p200 53 k (fun q => absurd q.1 (by decide))) (fun k => p200 54 k (fun q => absurd q.1 (by decide))) (p200 0 64 (fun q => absurd q.1 (by decide)))
      have KTO_I199 := gr_TO_fr KTO_I189 (fun k => p200 52 k (fun q => absurd q.1 (by decide))) (fun k => p200 53 k (fun q => absurd q.1 (by decide))) (fun k => p200 54 k (fun q => absurd q.1 (by decide))) (fun k => p200 55 k (fun q => absurd q.1 (by decide))) (fun k => p200 6 k (fun q => absurd q.1 (by decide))) (p200 0 64 (fun q => absurd q.1 (by decide))) (p200 0 3 (fun q => absurd q.1 (by decide)))
      have KTX_I199 := gr_TRx_fr KTX_I189 (fun k => p200 113 k (fun q => absurd q.1 (by decide))) (fun k => p200 10 k (fun q => absurd q.1 (by decide))) (fun k => p200 55 k (fun q => absurd q.1 (by decide))) (fun k => p200 6 k (fun q => absurd q.1 (by decide))) (fun k => p200 122 k (fun q => absurd q.1 (by decide))) (p200 0 3 (fun q => absurd q.1 (by decide))) (p200 0 64 (fun q => absurd q.1 (by decide)))
      refine gr_gst (a := 137) (k := (Int.toNat z158)) (z := ((I199 0 216) - (I 0 216))) hI199 FI199 rfl rfl ⟨⟨by show 0 ≤ _; exact gz_m 216 (by omega), by show _ ≤ 2000000; exact gz_m 217 (by omega)⟩, trivial⟩ (fun I209 hI209 FI209 q210 p210 => ?_)
      have t211 := p210 0 216 (fun q => absurd q.1 (by decide))
      have t212 := p210 0 217 (fun q => absurd q.1 (by decide))
      have t213 := p210 0 218 (fun q => absurd q.1 (by decide))
      have t214 := p210 0 64 (fun q => absurd q.1 (by decide))
      have f215 := (gr_b_0_216 hI209)
      have f216 := (gr_b_0_217 hI209)
      have f217 := (gr_b_0_218 hI209)
      have f218 := (gr_b_0_64 hI209)
      have KTM_I209 := gr_TM_fr KTM_I199 (fun k => p210 52 k (fun q => absurd q.1 (by decide))) (fun k => p210 53 k (fun q => absurd q.1 (by decide))) (fun k => p210 54 k (fun q => absurd q.1 (by decide))) (p210 0 64 (fun q => absurd q.1 (by decide)))
      have KTO_I209 := gr_TO_fr KTO_I199 (fun k => p210 52 k (fun q => absurd q.1 (by decide))) (fun k => p210 53 k (fun q => absurd q.1 (by decide))) (fun k => p210 54 k (fun q => absurd q.1 (by decide))) (fun k => p210 55 k (fun q => absurd q.1 (by decide))) (fun k => p210 6 k (fun q => absurd q.1 (by decide))) (p210 0 64 (fun q => absurd q.1 (by decide))) (p210 0 3 (fun q => absurd q.1 (by decide)))
      have KTX_I209 := gr_TRx_fr KTX_I199 (fun k => p210 113 k (fun q => absurd q.1 (by decide))) (fun k => p210 10 k (fun q => absurd q.1 (by decide))) (fun k => p210 55 k (fun q => absurd q.1 (by decide))) (fun k => p210 6 k (fun q => absurd q.1 (by decide))) (fun k => p210 122 k (fun q => absurd q.1 (by decide))) (p210 0 3 (fun q => absurd q.1 (by decide))) (p210 0 64 (fun q => absurd q.1 (by decide)))
      refine gr_gst (a := 137) (k := (5000 + Int.toNat z158)) (z := (I 55 (5000 + (Int.toNat a1)))) hI209 FI209 rfl rfl ⟨⟨by show 0 ≤ _; exact gz_m 218 (by omega), by show _ ≤ 2000000; exact gz_m 219 (by omega)⟩, trivial⟩ (fun I219 hI219 FI219 q220 p220 => ?_)
      have t221 := p220 0 216 (fun q => absurd q.1 (by decide))
      have t222 := p220 0 217 (fun q => absurd q.1 (by decide))
      have t223 := p220 0 218 (fun q => absurd q.1 (by decide))
      have t224 := p220 0 64 (fun q => absurd q.1 (by decide))
      have f225 := (gr_b_0_216 hI219)
      have f226 := (gr_b_0_217 hI219)
      have f227 := (gr_b_0_218 hI219)
      have f228 := (gr_b_0_64 hI219)
      have KTM_I219 := gr_TM_fr KTM_I209 (fun k => p220 52 k (fun q => absurd q.1 (by decide))) (fun k => p220 53 k (fun q => absurd q.1 (by decide))) (fun k => p220 54 k (fun q => absurd q.1 (by decide))) (p220 0 64 (fun q => absurd q.1 (by decide)))
      have KTO_I219 := gr_TO_fr KTO_I209 (fun k => p220 52 k (fun q => absurd q.1 (by decide))) (fun k => p220 53 k (fun q => absurd q.1 (by decide))) (fun k => p220 54 k (fun q => absurd q.1 (by decide))) (fun k => p220 55 k (fun q => absurd q.1 (by decide))) (fun k => p220 6 k (fun q => absurd q.1 (by decide))) (p220 0 64 (fun q => absurd q.1 (by decide))) (p220 0 3 (fun q => absurd q.1 (by decide)))
      have KTX_I219 := gr_TRx_fr KTX_I209 (fun k => p220 113 k (fun q => absurd q.1 (by decide))) (fun k => p220 10 k (fun q => absurd q.1 (by decide))) (fun k => p220 55 k (fun q => absurd q.1 (by decide))) (fun k => p220 6 k (fun q => absurd q.1 (by decide))) (fun k => p220 122 k (fun q => absurd q.1 (by decide))) (p220 0 3 (fun q => absurd q.1 (by decide))) (p220 0 64 (fun q => absurd q.1 (by decide)))
      refine gv_run 1 true hD (pc' := 132) (lv' := [(5, .inl z180), (4, .inl z169), (3, .inl z158), (0, .inr (.inr (some 0))), (1, .inl a1), (2, .inl a2)]) (st' := [.inl z158]) (h' := gr_h I219 J182) (C := (True ∧ True)) rfl ⟨trivial, trivial⟩ ?_
      exact gv_iret hD rfl ⟨I219, J182, rfl, hI219, FI219, FJ182, KTM_I219, KTO_I219, KTX_I219, ⟨_, rfl, by exact gz_m 220 (by omega), by exact gz_m 221 (by omega), by exact gz_m 222 (by omega), by exact gz_m 223 (by omega), by exact gz_m 224 (by omega), by exact gz_m 225 (by omega), (gr_oc4 q158.2.2.2.2.2.2.1 (gr_OC_w q169.2.2.2.2.2.2 (by rw [FI159 55 _ rfl]; exact gz_m 226 (by omega)) (Int.le_refl _)) (gr_OC_w q180.2.2.2.2.2.2 (by rw [FI170 55 _ rfl]; exact gz_m 227 (by omega)) (Int.le_refl _)) p190 q190 p200 q200 (gr_GS_of p210 q210 p220 q220) (by exact gz_m 228 (by omega)) ⟨by exact gz_m 229 (by omega), by exact gz_m 230 (by omega)⟩ (by exact gz_m 231 (by omega)) (by exact gz_m 232 (by omega)) (by exact gz_m 233 (by omega)) (by exact gz_m 234 (by omega)))⟩⟩
    refine gv_tabOut hD rfl ⟨by exact gz_m 235 (by omega), by exact gz_m 236 (by omega)⟩ (by exact gz_m 237 (by omega)) (t := 166) rfl ?_
    have t229 := (gr_b_55 hI (5000 + (Int.toNat a1)))
    have t230 := (KTO_I (Int.toNat a1) (by exact gz_m 238 (by omega))).2.2.1
    have t231 := (gr_b_52 hI (Int.toNat a1))
    have f232 := (gr_b_52 hI (Int.toNat a1))
    refine gv_run 5 true hD (pc' := 173) (lv' := [(0, .inr (.inr (some 0))), (1, .inl a1), (2, .inl a2)]) (st' := [.inl (I 52 (Int.toNat a1)), .inr (.inr (some 0))]) (h' := gr_h I J) (C := (((((True ∧ True) ∧ True) ∧ True) ∧ True) ∧ (0 ≤ a1 ∧ a1 < ((5000 : Nat) : Int)))) rfl ⟨⟨⟨⟨⟨trivial, trivial⟩, trivial⟩, trivial⟩, trivial⟩, ⟨by exact gz_m 239 (by omega), by exact gz_m 240 (by omega)⟩⟩ ?_
    have f233 := (gr_b_53 hI (Int.toNat a1))
    refine gv_run 4 true hD (pc' := 179) (lv' := [(0, .inr (.inr (some 0))), (1, .inl a1), (2, .inl a2)]) (st' := [.inl (I 53 (Int.toNat a1)), .inl (I 52 (Int.toNat a1)), .inr (.inr (some 0))]) (h' := gr_h I J) (C := ((((True ∧ True) ∧ True) ∧ True) ∧ (0 ≤ a1 ∧ a1 < ((5000 : Nat) : Int)))) rfl ⟨⟨⟨⟨trivial, trivial⟩, trivial⟩, trivial⟩, ⟨by exact gz_m 241 (by omega), by exact gz_m 242 (by omega)⟩⟩ ?_
    refine gv_run 5 true hD (pc' := 186) (lv' := [(0, .inr (.inr (some 0))), (1, .inl a1), (2, .inl a2)]) (st' := [.inr (.inl (J 55 (Int.toNat a1))), .inl 0, .inl (I 53 (Int.toNat a1)), .inl (I 52 (Int.toNat a1)), .inr (.inr (some 0))]) (h' := gr_h I J) (C := (((((True ∧ True) ∧ True) ∧ True) ∧ True) ∧ (0 ≤ a1 ∧ a1 < ((5000 : Nat) : Int)))) rfl ⟨⟨⟨⟨⟨trivial, trivial⟩, trivial⟩, trivial⟩, trivial⟩, ⟨by exact gz_m 243 (by omega), by exact gz_m 244 (by omega)⟩⟩ ?_
    obtain ⟨r234, h234, E234, P234⟩ := r_heap_w (ws0 := ws0) (tb := tb) hws htb ext I J hI ((I 52 (Int.toNat a1))) ((I 53 (Int.toNat a1))) 0 ((J 55 (Int.toNat a1))) ⟨by exact gz_m 245 (by omega), by exact gz_m 246 (by omega)⟩ ⟨by exact gz_m 247 (by omega), by exact gz_m 248 (by omega)⟩ ⟨by exact gz_m 249 (by omega), by exact gz_m 250 (by omega)⟩ (by exact gz_m 251 (by omega)) (by exact gz_m 252 (by omega)) (by exact gz_m 253 (by omega))
    obtain ⟨I235, J236, rfl, hI235, g234, k234, ⟨z234, rfl, q234⟩⟩ := P234
    have FI235 := gr_frt FI g234 rfl rfl
    have FJ236 := gr_fjt FJ k234 rfl rfl
    have t237 := g234 0 217 rfl
    have t238 := g234 0 64 rfl
    have f239 := (gr_b_0_216 hI235)
    have f240 := (gr_b_0_217 hI235)
    have f241 := (gr_b_0_218 hI235)
    have f242 := (gr_b_0_64 hI235)
    have KTM_I235 := gr_TM_fr KTM_I (fun k => g234 52 k rfl) (fun k => g234 53 k rfl) (fun k => g234 54 k rfl) (g234 0 64 rfl)
    have KTO_I235 := gr_TO_fr KTO_I (fun k => g234 52 k rfl) (fun k => g234 53 k rfl) (fun k => g234 54 k rfl) (fun k => g234 55 k rfl) (fun k => g234 6 k rfl) (g234 0 64 rfl) (g234 0 3 rfl)
    have KTX_I235 := gr_TRx_fr KTX_I (fun k => g234 113 k rfl) (fun k => g234 10 k rfl) (fun k => g234 55 k rfl) (fun k => g234 6 k rfl) (fun k => g234 122 k rfl) (g234 0 3 rfl) (g234 0 64 rfl)
    refine gv_callV hD rfl (As := [.inl (I 52 (Int.toNat a1)), .inl (I 53 (Int.toNat a1)), .inl 0, .inr (.inl (J 55 (Int.toNat a1)))]) (st := []) rfl (by decide) rfl rfl (gr_lV hws rfl) (Nat.le_of_ble_eq_true rfl) (gz_Ev_mono (d := 1) (by exact gz_m 254 (by omega)) E234) ?_
    show gv_X _ _ (189, [(0, .inr (.inr (some 0))), (1, .inl a1), (2, .inl a2)], [.inl z234], gr_sh ++ ext, gr_h I235 J236)
    refine gr_gst (a := 137) (k := (Int.toNat z234)) (z := ((I235 0 216) - (I 0 216))) hI235 FI235 rfl rfl ⟨⟨by show 0 ≤ _; exact gz_m 255 (by omega), by show _ ≤ 2000000; exact gz_m 256 (by omega)⟩, trivial⟩ (fun I243 hI243 FI243 q244 p244 => ?_)
    have t245 := p244 0 216 (fun q => absurd q.1 (by decide))
    have t246 := p244 0 217 (fun q => absurd q.1 (by decide))
    have t247 := p244 0 218 (fun q => absurd q.1 (by decide))
    have t248 := p244 0 64 (fun q => absurd q.1 (by decide))
    have f249 := (gr_b_0_216 hI243)
    have f250 := (gr_b_0_217 hI243)
    have f251 := (gr_b_0_218 hI243)
    have f252 := (gr_b_0_64 hI243)
    have KTM_I243 := gr_TM_fr KTM_I235 (fun k => p244 52 k (fun q => absurd q.1 (by decide))) (fun k => p244 53 k (fun q => absurd q.1 (by decide))) (fun k => p244 54 k (fun q => absurd q.1 (by decide))) (p244 0 64 (fun q => absurd q.1 (by decide)))
    have KTO_I243 := gr_TO_fr KTO_I235 (fun k => p244 52 k (fun q => absurd q.1 (by decide))) (fun k => p244 53 k (fun q => absurd q.1 (by decide))) (fun k => p244 54 k (fun q => absurd q.1 (by decide))) (fun k => p244 55 k (fun q => absurd q.1 (by decide))) (fun k => p244 6 k (fun q => absurd q.1 (by decide))) (p244 0 64 (fun q => absurd q.1 (by decide))) (p244 0 3 (fun q => absurd q.1 (by decide)))
    have KTX_I243 := gr_TRx_fr KTX_I235 (fun k => p244 113 k (fun q => absurd q.1 (by decide))) (fun k => p244 10 k (fun q => absurd q.1 (by decide))) (fun k => p244 55 k (fun q => absurd q.1 (by decide))) (fun k => p244 6 k (fun q => absurd q.1 (by decide))) (fun k => p244 122 k (fun q => absurd q.1 (by decide))) (p244 0 3 (fun q => absurd q.1 (by decide))) (p244 0 64 (fun q => absurd q.1 (by decide)))
    refine gr_gst (a := 137) (k := (5000 + Int.toNat z234)) (z := (I 55 (5000 + (Int.toNat a1)))) hI243 FI243 rfl rfl ⟨⟨by show 0 ≤ _; exact gz_m 257 (by omega), by show _ ≤ 2000000; exact gz_m 258 (by omega)⟩, trivial⟩ (fun I253 hI253 FI253 q254 p254 => ?_)
    have t255 := p254 0 216 (fun q => absurd q.1 (by decide))
    have t256 := p254 0 217 (fun q => absurd q.1 (by decide))
    have t257 := p254 0 218 (fun q => absurd q.1 (by decide))
    have t258 := p254 0 64 (fun q => absurd q.1 (by decide))
    have f259 := (gr_b_0_216 hI253)
    have f260 := (gr_b_0_217 hI253)
    have f261 := (gr_b_0_218 hI253)
    have f262 := (gr_b_0_64 hI253)
    have KTM_I253 := gr_TM_fr KTM_I243 (fun k => p254 52 k (fun q => absurd q.1 (by decide))) (fun k => p254 53 k (fun q => absurd q.1 (by decide))) (fun k => p254 54 k (fun q => absurd q.1 (by decide))) (p254 0 64 (fun q => absurd q.1 (by decide)))
    have KTO_I253 := gr_TO_fr KTO_I243 (fun k => p254 52 k (fun q => absurd q.1 (by decide))) (fun k => p254 53 k (fun q => absurd q.1 (by decide))) (fun k => p254 54 k (fun q => absurd q.1 (by decide))) (fun k => p254 55 k (fun q => absurd q.1 (by decide))) (fun k => p254 6 k (fun q => absurd q.1 (by decide))) (p254 0 64 (fun q => absurd q.1 (by decide))) (p254 0 3 (fun q => absurd q.1 (by decide)))
    have KTX_I253 := gr_TRx_fr KTX_I243 (fun k => p254 113 k (fun q => absurd q.1 (by decide))) (fun k => p254 10 k (fun q => absurd q.1 (by decide))) (fun k => p254 55 k (fun q => absurd q.1 (by decide))) (fun k => p254 6 k (fun q => absurd q.1 (by decide))) (fun k => p254 122 k (fun q => absurd q.1 (by decide))) (p254 0 3 (fun q => absurd q.1 (by decide))) (p254 0 64 (fun q => absurd q.1 (by decide)))
    exact gv_iret hD rfl ⟨I253, J236, rfl, hI253, FI253, FJ236, KTM_I253, KTO_I253, KTX_I253, ⟨_, rfl, by exact gz_m 259 (by omega), by exact gz_m 260 (by omega), by exact gz_m 261 (by omega), by exact gz_m 262 (by omega), by exact gz_m 263 (by omega), by exact gz_m 264 (by omega), ((gr_ocl q234.2.2.2.2.2.2.1 (gr_GS_of p244 q244 p254 q254) (by exact gz_m 265 (by omega)) (by exact gz_m 266 (by omega)) ⟨by exact gz_m 267 (by omega), by exact gz_m 268 (by omega)⟩ (by exact gz_m 269 (by omega)) (by exact gz_m 270 (by omega)) (by exact gz_m 271 (by omega)) (by exact gz_m 272 (by omega))).2)⟩⟩
  · refine gv_run 1 true hD (pc' := 8) (lv' := [(0, .inr (.inr (some 0))), (1, .inl a1), (2, .inl a2)]) (st' := [.inl 0]) (h' := gr_h I J) (C := (True ∧ True)) rfl ⟨trivial, trivial⟩ ?_
    exact gv_iret hD rfl ⟨I, J, rfl, hI, FI, FJ, KTM_I, KTO_I, KTX_I, ⟨_, rfl, by exact gz_m 273 (by omega), by exact gz_m 274 (by omega), by exact gz_m 275 (by omega), by exact gz_m 276 (by omega), by exact gz_m 277 (by omega), by exact gz_m 278 (by omega), ((gr_OK_lg (by exact gz_m 279 (by omega)) (by exact gz_m 280 (by omega))).2)⟩⟩
