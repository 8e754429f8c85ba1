set_option maxHeartbeats 8000000 in
set_option maxRecDepth 100000 in
theorem r_reading {ws0 : List Cond} {tb : String → gz_T} (hws : ∀ w ∈ gr_ws, w ∈ ws0) (htb : tb RX13 = gr_T) (ext : gz_Sh) (I : gr_I) (J : gr_J) (hI : gr_Inv I) (a1 : Int) (a2 : Int) (ha1 : (-2147483648) ≤ a1 ∧ a1 ≤ 2147483647) (ha2 : (-2147483648) ≤ a2 ∧ a2 ≤ 2147483647) (KGR_I : gr_GR I) (KFV_I : gr_FV I) (KPL_I : gr_PL I) : ∃ r hₚ, gz_Ev ws0 tb 801 (yX13_reading, cX13_reading, 4, (some .int)) [.inr (.inr (some 0)), .inl a1, .inl a2] (gr_sh ++ ext) (gr_h I J) r (gr_sh ++ ext) hₚ 0 0 ∧ (∃ (Iₚ : gr_I) (Jₚ : gr_J), hₚ = gr_h Iₚ Jₚ ∧ gr_Inv Iₚ ∧ gr_fr [0, 188] [113, 114, 115] I Iₚ ∧ gr_fj [0, 188] [113, 114, 115] J Jₚ ∧ gr_GR Iₚ ∧ gr_FV Iₚ ∧ gr_PL Iₚ ∧ (∃ z : Int, r = some (.inl z) ∧ (-2) ≤ z ∧ z ≤ 2000)) := by
  have FI : gr_fr [0, 188] [113, 114, 115] I I := fun _ _ _ => rfl
  have FJ : gr_fj [0, 188] [113, 114, 115] J J := fun _ _ _ => rfl
  have hD : gv_D (gr_E ws0 tb 800 (yX13_reading, cX13_reading, 4, (some .int)) kX13_reading) := gq_of oX13_reading
  refine gr_ev (d := 800) (l := kX13_reading) (Po := fun r hₚ => (∃ (Iₚ : gr_I) (Jₚ : gr_J), hₚ = gr_h Iₚ Jₚ ∧ gr_Inv Iₚ ∧ gr_fr [0, 188] [113, 114, 115] I Iₚ ∧ gr_fj [0, 188] [113, 114, 115] J Jₚ ∧ gr_GR Iₚ ∧ gr_FV Iₚ ∧ gr_PL Iₚ ∧ (∃ z : Int, r = some (.inl z) ∧ (-2) ≤ z ∧ z ≤ 2000))) htb rfl (Nat.le_of_ble_eq_true rfl) ?_
  have f1 := (gr_b_0_188 hI)
  have f2 := (gr_b_0_186 hI)
  have L22 : ∀ (I3 : gr_I) (J4 : gr_J) , gr_Inv I3 → gr_fr [0, 188] [113, 114, 115] I I3 → gr_fj [0, 188] [113, 114, 115] J J4 → gr_GR I3 → gr_FV I3 → gr_PL I3 → gv_X (gr_E ws0 tb 800 (yX13_reading, cX13_reading, 4, (some .int)) kX13_reading) (gv_Q cX13_reading (some .int) (gr_sh ++ ext) (fun r hₚ => (∃ (Iₚ : gr_I) (Jₚ : gr_J), hₚ = gr_h Iₚ Jₚ ∧ gr_Inv Iₚ ∧ gr_fr [0, 188] [113, 114, 115] I Iₚ ∧ gr_fj [0, 188] [113, 114, 115] J Jₚ ∧ gr_GR Iₚ ∧ gr_FV Iₚ ∧ gr_PL Iₚ ∧ (∃ z : Int, r = some (.inl z) ∧ (-2) ≤ z ∧ z ≤ 2000)))) (22, [], [], gr_sh ++ ext, gr_h I3 J4) := by
    intro I3 J4 hI3 FI3 FJ4 KGR_I3 KFV_I3 KPL_I3
    have f6 := (gr_b_0_188 hI3)
    have f7 := (gr_b_0_186 hI3)
    refine gv_run 1 true hD (pcₚ := 23) (lvₚ := []) (stₚ := [.inl (-1)]) (hₚ := gr_h I3 J4) (C := (True ∧ True)) rfl ⟨trivial, trivial⟩ ?_
    exact gv_iret hD rfl ⟨I3, J4, rfl, hI3, FI3, FJ4, KGR_I3, KFV_I3, KPL_I3, ⟨_, rfl, by exact gz_m 0 (by omega)⟩⟩
  have L59 : ∀ (n : Nat) (I8 : gr_I) (J9 : gr_J) (v3_10 : Int), (61 - v3_10).toNat < n → gr_Inv I8 → gr_fr [0, 188] [113, 114, 115] I I8 → gr_fj [0, 188] [113, 114, 115] J J9 → gr_GR I8 → gr_FV I8 → ((0 ≤ a2 ∧ a2 ≤ 7) ∧ (0 ≤ v3_10 ∧ v3_10 ≤ 60) ∧ (I8 0 188 ≤ 60)) → (gr_CPL a2 v3_10 I8) → (gr_SG 1 0 (I8 0 188) I8) → gv_X (gr_E ws0 tb 800 (yX13_reading, cX13_reading, 4, (some .int)) kX13_reading) (gv_Q cX13_reading (some .int) (gr_sh ++ ext) (fun r hₚ => (∃ (Iₚ : gr_I) (Jₚ : gr_J), hₚ = gr_h Iₚ Jₚ ∧ gr_Inv Iₚ ∧ gr_fr [0, 188] [113, 114, 115] I Iₚ ∧ gr_fj [0, 188] [113, 114, 115] J Jₚ ∧ gr_GR Iₚ ∧ gr_FV Iₚ ∧ gr_PL Iₚ ∧ (∃ z : Int, r = some (.inl z) ∧ (-2) ≤ z ∧ z ≤ 2000)))) (59, [(0, .inr (.inr (some 0))), (2, .inl a2), (3, .inl v3_10)], [], gr_sh ++ ext, gr_h I8 J9) := by
    intro n
    induction n with
    | zero => intro I8 J9 v3_10 hn; exact gz_m 1 (by omega)
    | succ n ih59 =>
      intro I8 J9 v3_10 hn hI8 FI8 FJ9 KGR_I8 KFV_I8 m_10 e1_10 e2_10
      obtain ⟨ha2_10, hv3_10, e0_10⟩ := m_10
      have f11 := (gr_b_0_188 hI8)
      have f12 := (gr_b_0_186 hI8)
      have f13 := (gr_b_0_188 hI8)
      refine gv_run 3 true hD (pcₚ := 64) (lvₚ := [(0, .inr (.inr (some 0))), (2, .inl a2), (3, .inl v3_10)]) (stₚ := [.inl (I8 0 188), .inl v3_10]) (hₚ := gr_h I8 J9) (C := (((True ∧ True) ∧ True) ∧ True)) rfl ⟨⟨⟨trivial, trivial⟩, trivial⟩, trivial⟩ ?_
      refine gv_icmp_ge (t := 90) hD rfl rfl ⟨⟨by exact gz_m 2 (by omega), by exact gz_m 3 (by omega)⟩, ⟨by exact gz_m 4 (by omega), by exact gz_m 5 (by omega)⟩⟩ (fun c14 => ?_) (fun c14 => ?_)
      · have f15 := (gr_b_0_188 hI8)
        refine gv_run 5 true hD (pcₚ := 99) (lvₚ := [(0, .inr (.inr (some 0))), (2, .inl a2), (3, .inl v3_10)]) (stₚ := [.inl (I8 0 188), .inl a2, .inr (.inr (some 115))]) (hₚ := gr_h I8 J9) (C := (((((True ∧ True) ∧ True) ∧ True) ∧ True) ∧ True)) rfl ⟨⟨⟨⟨⟨trivial, trivial⟩, trivial⟩, trivial⟩, trivial⟩, trivial⟩ ?_
        refine gv_run 1 true hD (pcₚ := 100) (lvₚ := [(0, .inr (.inr (some 0))), (2, .inl a2), (3, .inl v3_10)]) (stₚ := []) (hₚ := gz_up (gr_h I8 J9) 115 (Int.toNat a2) (.inl (I8 0 188))) (C := (True ∧ (0 ≤ a2 ∧ a2 < ((8 : Nat) : Int)))) rfl ⟨trivial, ⟨by exact gz_m 6 (by omega), by exact gz_m 7 (by omega)⟩⟩ ?_
        refine gr_st hI8 FI8 rfl rfl ⟨⟨by show 0 ≤ _; exact gz_m 8 (by omega), by show _ ≤ 60; exact gz_m 9 (by omega)⟩, trivial⟩ (fun I16 hI16 FI16 q17 p17 => ?_)
        have t18 := p17 0 188 (fun q => absurd q.1 (by first | exact gz_ne rfl | decide))
        have t19 := p17 0 186 (fun q => absurd q.1 (by first | exact gz_ne rfl | decide))
        have f20 := (gr_b_0_188 hI16)
        have f21 := (gr_b_0_186 hI16)
        have KGR_I16 := gr_GR_fr KGR_I8 (fun k => p17 19 k (fun q => absurd q.1 (by first | exact gz_ne rfl | decide))) (fun k => p17 18 k (fun q => absurd q.1 (by first | exact gz_ne rfl | decide))) (fun k => p17 36 k (fun q => absurd q.1 (by first | exact gz_ne rfl | decide))) (fun k => p17 41 k (fun q => absurd q.1 (by first | exact gz_ne rfl | decide))) (fun k => p17 42 k (fun q => absurd q.1 (by first | exact gz_ne rfl | decide))) (fun k => p17 43 k (fun q => absurd q.1 (by first | exact gz_ne rfl | decide))) (fun k => p17 45 k (fun q => absurd q.1 (by first | exact gz_ne rfl | decide))) (fun k => p17 46 k (fun q => absurd q.1 (by first | exact gz_ne rfl | decide))) (fun k => p17 47 k (fun q => absurd q.1 (by first | exact gz_ne rfl | decide))) (fun k => p17 6 k (fun q => absurd q.1 (by first | exact gz_ne rfl | decide))) (fun k => p17 7 k (fun q => absurd q.1 (by first | exact gz_ne rfl | decide))) (fun k => p17 8 k (fun q => absurd q.1 (by first | exact gz_ne rfl | decide))) (p17 0 3 (fun q => absurd q.1 (by first | exact gz_ne rfl | decide)))
        have KFV_I16 := gr_FV_fr KFV_I8 (fun k => p17 87 k (fun q => absurd q.1 (by first | exact gz_ne rfl | decide))) (fun k => p17 88 k (fun q => absurd q.1 (by first | exact gz_ne rfl | decide))) (fun k => p17 104 k (fun q => absurd q.1 (by first | exact gz_ne rfl | decide))) (fun k => p17 90 k (fun q => absurd q.1 (by first | exact gz_ne rfl | decide))) (fun k => p17 91 k (fun q => absurd q.1 (by first | exact gz_ne rfl | decide))) (fun k => p17 92 k (fun q => absurd q.1 (by first | exact gz_ne rfl | decide))) (fun k => p17 94 k (fun q => absurd q.1 (by first | exact gz_ne rfl | decide))) (fun k => p17 95 k (fun q => absurd q.1 (by first | exact gz_ne rfl | decide))) (fun k => p17 97 k (fun q => absurd q.1 (by first | exact gz_ne rfl | decide))) (fun k => p17 98 k (fun q => absurd q.1 (by first | exact gz_ne rfl | decide))) (fun k => p17 19 k (fun q => absurd q.1 (by first | exact gz_ne rfl | decide))) (fun k => p17 18 k (fun q => absurd q.1 (by first | exact gz_ne rfl | decide))) (fun k => p17 41 k (fun q => absurd q.1 (by first | exact gz_ne rfl | decide))) (fun k => p17 6 k (fun q => absurd q.1 (by first | exact gz_ne rfl | decide))) (fun k => p17 99 k (fun q => absurd q.1 (by first | exact gz_ne rfl | decide))) (fun k => p17 105 k (fun q => absurd q.1 (by first | exact gz_ne rfl | decide))) (fun k => p17 107 k (fun q => absurd q.1 (by first | exact gz_ne rfl | decide))) (fun k => p17 108 k (fun q => absurd q.1 (by first | exact gz_ne rfl | decide))) (fun k => p17 110 k (fun q => absurd q.1 (by first | exact gz_ne rfl | decide))) (fun k => p17 111 k (fun q => absurd q.1 (by first | exact gz_ne rfl | decide))) (p17 0 157 (fun q => absurd q.1 (by first | exact gz_ne rfl | decide))) (p17 0 158 (fun q => absurd q.1 (by first | exact gz_ne rfl | decide))) (p17 0 177 (fun q => absurd q.1 (by first | exact gz_ne rfl | decide))) (p17 0 186 (fun q => absurd q.1 (by first | exact gz_ne rfl | decide))) (p17 0 159 (fun q => absurd q.1 (by first | exact gz_ne rfl | decide))) hI8
        have f22 := (gr_b_0_188 hI16)
        refine gv_run 2 true hD (pcₚ := 104) (lvₚ := [(0, .inr (.inr (some 0))), (2, .inl a2), (3, .inl v3_10)]) (stₚ := [.inl (I16 0 188)]) (hₚ := gr_h I16 J9) (C := ((True ∧ True) ∧ True)) rfl ⟨⟨trivial, trivial⟩, trivial⟩ ?_
        exact gv_iret hD rfl ⟨I16, J9, rfl, hI16, FI16, FJ9, KGR_I16, KFV_I16, (gr_PL_end e1_10 e2_10 (by exact gz_m 10 (by omega)) (by exact gz_m 11 (by omega)) p17 q17), ⟨_, rfl, by exact gz_m 12 (by omega)⟩⟩
      · refine gv_run 7 true hD (pcₚ := 77) (lvₚ := [(0, .inr (.inr (some 0))), (2, .inl a2), (3, .inl v3_10)]) (stₚ := [.inl ((60 * a2) + v3_10), .inr (.inr (some 114))]) (hₚ := gr_h I8 J9) (C := (((((((True ∧ True) ∧ True) ∧ True) ∧ True) ∧ True) ∧ True) ∧ True)) rfl ⟨⟨⟨⟨⟨⟨⟨trivial, trivial⟩, trivial⟩, trivial⟩, trivial⟩, trivial⟩, trivial⟩, trivial⟩ ?_
        have f23 := (gr_b_113 hI8 (Int.toNat v3_10))
        refine gv_run 4 true hD (pcₚ := 83) (lvₚ := [(0, .inr (.inr (some 0))), (2, .inl a2), (3, .inl v3_10)]) (stₚ := [.inl (I8 113 (Int.toNat v3_10)), .inl ((60 * a2) + v3_10), .inr (.inr (some 114))]) (hₚ := gr_h I8 J9) (C := ((((True ∧ True) ∧ True) ∧ True) ∧ (0 ≤ v3_10 ∧ v3_10 < ((2000 : Nat) : Int)))) rfl ⟨⟨⟨⟨trivial, trivial⟩, trivial⟩, trivial⟩, ⟨by exact gz_m 13 (by omega), by exact gz_m 14 (by omega)⟩⟩ ?_
        refine gv_run 1 true hD (pcₚ := 84) (lvₚ := [(0, .inr (.inr (some 0))), (2, .inl a2), (3, .inl v3_10)]) (stₚ := []) (hₚ := gz_up (gr_h I8 J9) 114 (Int.toNat (((60 * a2) + v3_10))) (.inl ((I8 113 (Int.toNat v3_10))))) (C := (True ∧ (0 ≤ (((60 * a2) + v3_10)) ∧ (((60 * a2) + v3_10)) < ((480 : Nat) : Int)))) rfl ⟨trivial, ⟨by exact gz_m 15 (by omega), by exact gz_m 16 (by omega)⟩⟩ ?_
        refine gr_st hI8 FI8 rfl rfl ⟨⟨by show 0 ≤ _; exact gz_m 17 (by omega), by show _ ≤ 95; exact gz_m 18 (by omega)⟩, trivial⟩ (fun I24 hI24 FI24 q25 p25 => ?_)
        have t26 := p25 0 188 (fun q => absurd q.1 (by first | exact gz_ne rfl | decide))
        have t27 := p25 0 186 (fun q => absurd q.1 (by first | exact gz_ne rfl | decide))
        have f28 := (gr_b_0_188 hI24)
        have f29 := (gr_b_0_186 hI24)
        have KGR_I24 := gr_GR_fr KGR_I8 (fun k => p25 19 k (fun q => absurd q.1 (by first | exact gz_ne rfl | decide))) (fun k => p25 18 k (fun q => absurd q.1 (by first | exact gz_ne rfl | decide))) (fun k => p25 36 k (fun q => absurd q.1 (by first | exact gz_ne rfl | decide))) (fun k => p25 41 k (fun q => absurd q.1 (by first | exact gz_ne rfl | decide))) (fun k => p25 42 k (fun q => absurd q.1 (by first | exact gz_ne rfl | decide))) (fun k => p25 43 k (fun q => absurd q.1 (by first | exact gz_ne rfl | decide))) (fun k => p25 45 k (fun q => absurd q.1 (by first | exact gz_ne rfl | decide))) (fun k => p25 46 k (fun q => absurd q.1 (by first | exact gz_ne rfl | decide))) (fun k => p25 47 k (fun q => absurd q.1 (by first | exact gz_ne rfl | decide))) (fun k => p25 6 k (fun q => absurd q.1 (by first | exact gz_ne rfl | decide))) (fun k => p25 7 k (fun q => absurd q.1 (by first | exact gz_ne rfl | decide))) (fun k => p25 8 k (fun q => absurd q.1 (by first | exact gz_ne rfl | decide))) (p25 0 3 (fun q => absurd q.1 (by first | exact gz_ne rfl | decide)))
        have KFV_I24 := gr_FV_fr KFV_I8 (fun k => p25 87 k (fun q => absurd q.1 (by first | exact gz_ne rfl | decide))) (fun k => p25 88 k (fun q => absurd q.1 (by first | exact gz_ne rfl | decide))) (fun k => p25 104 k (fun q => absurd q.1 (by first | exact gz_ne rfl | decide))) (fun k => p25 90 k (fun q => absurd q.1 (by first | exact gz_ne rfl | decide))) (fun k => p25 91 k (fun q => absurd q.1 (by first | exact gz_ne rfl | decide))) (fun k => p25 92 k (fun q => absurd q.1 (by first | exact gz_ne rfl | decide))) (fun k => p25 94 k (fun q => absurd q.1 (by first | exact gz_ne rfl | decide))) (fun k => p25 95 k (fun q => absurd q.1 (by first | exact gz_ne rfl | decide))) (fun k => p25 97 k (fun q => absurd q.1 (by first | exact gz_ne rfl | decide))) (fun k => p25 98 k (fun q => absurd q.1 (by first | exact gz_ne rfl | decide))) (fun k => p25 19 k (fun q => absurd q.1 (by first | exact gz_ne rfl | decide))) (fun k => p25 18 k (fun q => absurd q.1 (by first | exact gz_ne rfl | decide))) (fun k => p25 41 k (fun q => absurd q.1 (by first | exact gz_ne rfl | decide))) (fun k => p25 6 k (fun q => absurd q.1 (by first | exact gz_ne rfl | decide))) (fun k => p25 99 k (fun q => absurd q.1 (by first | exact gz_ne rfl | decide))) (fun k => p25 105 k (fun q => absurd q.1 (by first | exact gz_ne rfl | decide))) (fun k => p25 107 k (fun q => absurd q.1 (by first | exact gz_ne rfl | decide))) (fun k => p25 108 k (fun q => absurd q.1 (by first | exact gz_ne rfl | decide))) (fun k => p25 110 k (fun q => absurd q.1 (by first | exact gz_ne rfl | decide))) (fun k => p25 111 k (fun q => absurd q.1 (by first | exact gz_ne rfl | decide))) (p25 0 157 (fun q => absurd q.1 (by first | exact gz_ne rfl | decide))) (p25 0 158 (fun q => absurd q.1 (by first | exact gz_ne rfl | decide))) (p25 0 177 (fun q => absurd q.1 (by first | exact gz_ne rfl | decide))) (p25 0 186 (fun q => absurd q.1 (by first | exact gz_ne rfl | decide))) (p25 0 159 (fun q => absurd q.1 (by first | exact gz_ne rfl | decide))) hI8
        refine gv_run 2 true hD (pcₚ := 59) (lvₚ := [(3, .inl (v3_10 + 1)), (0, .inr (.inr (some 0))), (2, .inl a2)]) (stₚ := []) (hₚ := gr_h I24 J9) (C := ((True ∧ True) ∧ True)) rfl ⟨⟨trivial, trivial⟩, trivial⟩ ?_
        refine gv_pick [1, 2, 0] rfl ?_
        exact ih59 I24 J9 (v3_10 + 1) (by exact gz_m 19 (by omega)) hI24 FI24 FJ9 KGR_I24 KFV_I24 (by exact gz_m 20 (by omega)) (gr_CPL_st e1_10 (by exact gz_m 21 (by omega)) (by exact gz_m 22 (by omega)) (by exact gz_m 23 (by omega)) p25 q25) (by rw [show I24 0 188 = I8 0 188 from by exact gz_m 24 (by omega)]; exact gr_SG_fr e2_10 (fun j _ _ => p25 113 j (fun q => absurd q.1 (by first | exact gz_ne rfl | decide))) (fun f _ => p25 6 f (fun q => absurd q.1 (by first | exact gz_ne rfl | decide))) (Int.le_of_eq (p25 0 3 (fun q => absurd q.1 (by first | exact gz_ne rfl | decide))).symm))
  refine gv_run 2 true hD (pcₚ := 2) (lvₚ := [(0, .inr (.inr (some 0))), (1, .inl a1), (2, .inl a2)]) (stₚ := [.inl a2, .inr (.inr (some 0))]) (hₚ := gr_h I J) (C := ((True ∧ True) ∧ True)) rfl ⟨⟨trivial, trivial⟩, trivial⟩ ?_
  obtain ⟨r30, h30, E30, P30⟩ := r_noPlace (ws0 := ws0) (tb := tb) hws htb ext I J hI a2 ⟨by exact gz_m 25 (by omega), by exact gz_m 26 (by omega)⟩ 
  obtain ⟨I31, J32, rfl, hI31, g30, k30, ⟨z30, rfl, q30⟩⟩ := P30
  have FI31 := gr_frt FI g30 rfl rfl
  have FJ32 := gr_fjt FJ k30 rfl rfl
  have t33 := g30 0 188 rfl
  have t34 := g30 0 186 rfl
  have f35 := (gr_b_0_188 hI31)
  have f36 := (gr_b_0_186 hI31)
  have KGR_I31 := gr_GR_fr KGR_I (fun k => g30 19 k rfl) (fun k => g30 18 k rfl) (fun k => g30 36 k rfl) (fun k => g30 41 k rfl) (fun k => g30 42 k rfl) (fun k => g30 43 k rfl) (fun k => g30 45 k rfl) (fun k => g30 46 k rfl) (fun k => g30 47 k rfl) (fun k => g30 6 k rfl) (fun k => g30 7 k rfl) (fun k => g30 8 k rfl) (g30 0 3 rfl)
  have KFV_I31 := gr_FV_fr KFV_I (fun k => g30 87 k rfl) (fun k => g30 88 k rfl) (fun k => g30 104 k rfl) (fun k => g30 90 k rfl) (fun k => g30 91 k rfl) (fun k => g30 92 k rfl) (fun k => g30 94 k rfl) (fun k => g30 95 k rfl) (fun k => g30 97 k rfl) (fun k => g30 98 k rfl) (fun k => g30 19 k rfl) (fun k => g30 18 k rfl) (fun k => g30 41 k rfl) (fun k => g30 6 k rfl) (fun k => g30 99 k rfl) (fun k => g30 105 k rfl) (fun k => g30 107 k rfl) (fun k => g30 108 k rfl) (fun k => g30 110 k rfl) (fun k => g30 111 k rfl) (g30 0 157 rfl) (g30 0 158 rfl) (g30 0 177 rfl) (g30 0 186 rfl) (g30 0 159 rfl) hI
  have KPL_I31 := gr_PL_fr KPL_I (fun k => g30 114 k rfl) (fun k => g30 115 k rfl) (fun k => g30 6 k rfl) (g30 0 3 rfl)
  refine gv_callV hD rfl (As := [.inl a2]) (st := []) rfl (by decide) rfl rfl (gr_lV hws rfl) (Nat.le_of_ble_eq_true rfl) (gz_Ev_mono (d := 1) (by decide) E30) ?_
  show gv_X _ _ (5, [(0, .inr (.inr (some 0))), (1, .inl a1), (2, .inl a2)], [.inl z30], gr_sh ++ ext, gr_h I31 J32)
  refine gv_if_eq (t := 10) hD rfl rfl ⟨by exact gz_m 27 (by omega), by exact gz_m 28 (by omega)⟩ (fun c37 => ?_) (fun c37 => ?_)
  · refine gv_run 1 true hD (pcₚ := 11) (lvₚ := [(0, .inr (.inr (some 0))), (1, .inl a1), (2, .inl a2)]) (stₚ := [.inl a1]) (hₚ := gr_h I31 J32) (C := (True ∧ True)) rfl ⟨trivial, trivial⟩ ?_
    refine gv_if_lt (t := 22) hD rfl rfl ⟨by exact gz_m 29 (by omega), by exact gz_m 30 (by omega)⟩ (fun c38 => ?_) (fun c38 => ?_)
    · refine gv_pick [] rfl ?_
      exact L22 I31 J32 hI31 FI31 FJ32 KGR_I31 KFV_I31 KPL_I31
    · have f39 := (gr_b_0_186 hI31)
      refine gv_run 3 true hD (pcₚ := 19) (lvₚ := [(0, .inr (.inr (some 0))), (1, .inl a1), (2, .inl a2)]) (stₚ := [.inl (I31 0 186), .inl a1]) (hₚ := gr_h I31 J32) (C := (((True ∧ True) ∧ True) ∧ True)) rfl ⟨⟨⟨trivial, trivial⟩, trivial⟩, trivial⟩ ?_
      refine gv_icmp_lt (t := 24) hD rfl rfl ⟨⟨by exact gz_m 31 (by omega), by exact gz_m 32 (by omega)⟩, ⟨by exact gz_m 33 (by omega), by exact gz_m 34 (by omega)⟩⟩ (fun c40 => ?_) (fun c40 => ?_)
      · refine gv_run 3 true hD (pcₚ := 29) (lvₚ := [(0, .inr (.inr (some 0))), (1, .inl a1), (2, .inl a2)]) (stₚ := []) (hₚ := gz_up (gr_h I31 J32) 0 188 (.inl 0)) (C := (((True ∧ True) ∧ True) ∧ True)) rfl ⟨⟨⟨trivial, trivial⟩, trivial⟩, trivial⟩ ?_
        refine gr_st hI31 FI31 rfl rfl ⟨⟨by show 0 ≤ _; exact gz_m 35 (by omega), by show _ ≤ 2000; exact gz_m 36 (by omega)⟩, trivial⟩ (fun I41 hI41 FI41 q42 p42 => ?_)
        have t43 := p42 0 186 (by decide)
        have f44 := (gr_b_0_188 hI41)
        have f45 := (gr_b_0_186 hI41)
        have KGR_I41 := gr_GR_fr KGR_I31 (fun k => p42 19 k (fun q => absurd q.1 (by first | exact gz_ne rfl | decide))) (fun k => p42 18 k (fun q => absurd q.1 (by first | exact gz_ne rfl | decide))) (fun k => p42 36 k (fun q => absurd q.1 (by first | exact gz_ne rfl | decide))) (fun k => p42 41 k (fun q => absurd q.1 (by first | exact gz_ne rfl | decide))) (fun k => p42 42 k (fun q => absurd q.1 (by first | exact gz_ne rfl | decide))) (fun k => p42 43 k (fun q => absurd q.1 (by first | exact gz_ne rfl | decide))) (fun k => p42 45 k (fun q => absurd q.1 (by first | exact gz_ne rfl | decide))) (fun k => p42 46 k (fun q => absurd q.1 (by first | exact gz_ne rfl | decide))) (fun k => p42 47 k (fun q => absurd q.1 (by first | exact gz_ne rfl | decide))) (fun k => p42 6 k (fun q => absurd q.1 (by first | exact gz_ne rfl | decide))) (fun k => p42 7 k (fun q => absurd q.1 (by first | exact gz_ne rfl | decide))) (fun k => p42 8 k (fun q => absurd q.1 (by first | exact gz_ne rfl | decide))) (p42 0 3 (by decide))
        have KFV_I41 := gr_FV_fr KFV_I31 (fun k => p42 87 k (fun q => absurd q.1 (by first | exact gz_ne rfl | decide))) (fun k => p42 88 k (fun q => absurd q.1 (by first | exact gz_ne rfl | decide))) (fun k => p42 104 k (fun q => absurd q.1 (by first | exact gz_ne rfl | decide))) (fun k => p42 90 k (fun q => absurd q.1 (by first | exact gz_ne rfl | decide))) (fun k => p42 91 k (fun q => absurd q.1 (by first | exact gz_ne rfl | decide))) (fun k => p42 92 k (fun q => absurd q.1 (by first | exact gz_ne rfl | decide))) (fun k => p42 94 k (fun q => absurd q.1 (by first | exact gz_ne rfl | decide))) (fun k => p42 95 k (fun q => absurd q.1 (by first | exact gz_ne rfl | decide))) (fun k => p42 97 k (fun q => absurd q.1 (by first | exact gz_ne rfl | decide))) (fun k => p42 98 k (fun q => absurd q.1 (by first | exact gz_ne rfl | decide))) (fun k => p42 19 k (fun q => absurd q.1 (by first | exact gz_ne rfl | decide))) (fun k => p42 18 k (fun q => absurd q.1 (by first | exact gz_ne rfl | decide))) (fun k => p42 41 k (fun q => absurd q.1 (by first | exact gz_ne rfl | decide))) (fun k => p42 6 k (fun q => absurd q.1 (by first | exact gz_ne rfl | decide))) (fun k => p42 99 k (fun q => absurd q.1 (by first | exact gz_ne rfl | decide))) (fun k => p42 105 k (fun q => absurd q.1 (by first | exact gz_ne rfl | decide))) (fun k => p42 107 k (fun q => absurd q.1 (by first | exact gz_ne rfl | decide))) (fun k => p42 108 k (fun q => absurd q.1 (by first | exact gz_ne rfl | decide))) (fun k => p42 110 k (fun q => absurd q.1 (by first | exact gz_ne rfl | decide))) (fun k => p42 111 k (fun q => absurd q.1 (by first | exact gz_ne rfl | decide))) (p42 0 157 (by decide)) (p42 0 158 (by decide)) (p42 0 177 (by decide)) (p42 0 186 (by decide)) (p42 0 159 (by decide)) hI31
        have KPL_I41 := gr_PL_fr KPL_I31 (fun k => p42 114 k (fun q => absurd q.1 (by first | exact gz_ne rfl | decide))) (fun k => p42 115 k (fun q => absurd q.1 (by first | exact gz_ne rfl | decide))) (fun k => p42 6 k (fun q => absurd q.1 (by first | exact gz_ne rfl | decide))) (p42 0 3 (by decide))
        have f46 := (gr_b_110 hI41 (Int.toNat a1))
        refine gv_run 5 true hD (pcₚ := 36) (lvₚ := [(0, .inr (.inr (some 0))), (1, .inl a1), (2, .inl a2)]) (stₚ := [.inl (I41 110 (Int.toNat a1)), .inr (.inr (some 0))]) (hₚ := gr_h I41 J32) (C := (((((True ∧ True) ∧ True) ∧ True) ∧ True) ∧ (0 ≤ a1 ∧ a1 < ((16 : Nat) : Int)))) rfl ⟨⟨⟨⟨⟨trivial, trivial⟩, trivial⟩, trivial⟩, trivial⟩, ⟨by exact gz_m 37 (by omega), by exact gz_m 38 (by omega)⟩⟩ ?_
        have f47 := (gr_b_111 hI41 (Int.toNat a1))
        refine gv_run 4 true hD (pcₚ := 42) (lvₚ := [(0, .inr (.inr (some 0))), (1, .inl a1), (2, .inl a2)]) (stₚ := [.inl (I41 111 (Int.toNat a1)), .inl (I41 110 (Int.toNat a1)), .inr (.inr (some 0))]) (hₚ := gr_h I41 J32) (C := ((((True ∧ True) ∧ True) ∧ True) ∧ (0 ≤ a1 ∧ a1 < ((16 : Nat) : Int)))) rfl ⟨⟨⟨⟨trivial, trivial⟩, trivial⟩, trivial⟩, ⟨by exact gz_m 39 (by omega), by exact gz_m 40 (by omega)⟩⟩ ?_
        have t48 := (gr_FV_s KFV_I41 (by exact gz_m 41 (by omega))).2.2.2 (Int.toNat a1) (by exact gz_m 42 (by omega)) (by exact gz_m 43 (by omega))
        have t49 := (gr_b_88 hI41 (Int.toNat (I41 110 (Int.toNat a1))))
        have t50 := (gr_b_104 hI41 (Int.toNat (I41 110 (Int.toNat a1))))
        have t51 := (gr_b_87 hI41 (Int.toNat (I41 110 (Int.toNat a1))))
        obtain ⟨r52, h52, E52, P52⟩ := r_read (ws0 := ws0) (tb := tb) hws htb ext 800 I41 J32 hI41 ((I41 110 (Int.toNat a1))) ((I41 111 (Int.toNat a1))) ⟨by exact gz_m 44 (by omega), by exact gz_m 45 (by omega)⟩ ⟨by exact gz_m 46 (by omega), by exact gz_m 47 (by omega)⟩ KGR_I41 (gr_FV_s KFV_I41 (by exact gz_m 48 (by omega))).2.1 (gr_FV_s KFV_I41 (by exact gz_m 49 (by omega))).2.2.1 (by exact gz_m 50 (by omega)) (by exact gz_m 51 (by omega)) (by exact gz_m 52 (by omega)) (by exact gz_m 53 (by omega))
        obtain ⟨I53, J54, rfl, hI53, g52, k52, ⟨rfl, q52⟩⟩ := P52
        have FI53 := gr_frt FI41 g52 rfl rfl
        have FJ54 := gr_fjt FJ32 k52 rfl rfl
        have t55 := g52 0 186 rfl
        have f56 := (gr_b_0_188 hI53)
        have f57 := (gr_b_0_186 hI53)
        have KGR_I53 := gr_GR_fr KGR_I41 (fun k => g52 19 k rfl) (fun k => g52 18 k rfl) (fun k => g52 36 k rfl) (fun k => g52 41 k rfl) (fun k => g52 42 k rfl) (fun k => g52 43 k rfl) (fun k => g52 45 k rfl) (fun k => g52 46 k rfl) (fun k => g52 47 k rfl) (fun k => g52 6 k rfl) (fun k => g52 7 k rfl) (fun k => g52 8 k rfl) (g52 0 3 rfl)
        have KFV_I53 := gr_FV_fr KFV_I41 (fun k => g52 87 k rfl) (fun k => g52 88 k rfl) (fun k => g52 104 k rfl) (fun k => g52 90 k rfl) (fun k => g52 91 k rfl) (fun k => g52 92 k rfl) (fun k => g52 94 k rfl) (fun k => g52 95 k rfl) (fun k => g52 97 k rfl) (fun k => g52 98 k rfl) (fun k => g52 19 k rfl) (fun k => g52 18 k rfl) (fun k => g52 41 k rfl) (fun k => g52 6 k rfl) (fun k => g52 99 k rfl) (fun k => g52 105 k rfl) (fun k => g52 107 k rfl) (fun k => g52 108 k rfl) (fun k => g52 110 k rfl) (fun k => g52 111 k rfl) (g52 0 157 rfl) (g52 0 158 rfl) (g52 0 177 rfl) (g52 0 186 rfl) (g52 0 159 rfl) hI41
        have KPL_I53 := gr_PL_fr KPL_I41 (fun k => g52 114 k rfl) (fun k => g52 115 k rfl) (fun k => g52 6 k rfl) (g52 0 3 rfl)
        refine gv_callV hD rfl (As := [.inl (I41 110 (Int.toNat a1)), .inl (I41 111 (Int.toNat a1))]) (st := []) rfl (by decide) rfl rfl (gr_lV hws rfl) (Nat.le_of_ble_eq_true rfl) (gz_Ev_mono (d := 800) (by decide) E52) ?_
        show gv_X _ _ (45, [(0, .inr (.inr (some 0))), (1, .inl a1), (2, .inl a2)], [], gr_sh ++ ext, gr_h I53 J54)
        have f58 := (gr_b_0_188 hI53)
        refine gv_run 3 true hD (pcₚ := 51) (lvₚ := [(0, .inr (.inr (some 0))), (1, .inl a1), (2, .inl a2)]) (stₚ := [.inl 60, .inl (I53 0 188)]) (hₚ := gr_h I53 J54) (C := (((True ∧ True) ∧ True) ∧ True)) rfl ⟨⟨⟨trivial, trivial⟩, trivial⟩, trivial⟩ ?_
        refine gv_icmp_le (t := 57) hD rfl rfl ⟨⟨by exact gz_m 54 (by omega), by exact gz_m 55 (by omega)⟩, ⟨by exact gz_m 56 (by omega), by exact gz_m 57 (by omega)⟩⟩ (fun c59 => ?_) (fun c59 => ?_)
        · refine gv_run 2 true hD (pcₚ := 59) (lvₚ := [(3, .inl 0), (0, .inr (.inr (some 0))), (1, .inl a1), (2, .inl a2)]) (stₚ := []) (hₚ := gr_h I53 J54) (C := ((True ∧ True) ∧ True)) rfl ⟨⟨trivial, trivial⟩, trivial⟩ ?_
          refine gv_pick [1, 3, 0] rfl ?_
          exact L59 _ I53 J54 0 (Nat.lt_succ_self _) hI53 FI53 FJ54 KGR_I53 KFV_I53 (by exact gz_m 58 (by omega)) (gr_CPL_0 KPL_I53 ⟨by exact gz_m 59 (by omega), by exact gz_m 60 (by omega)⟩) (by have u9 := q52.2.2.2; rw [show I41 0 188 = 0 from by exact gz_m 61 (by omega)] at u9; exact u9)
        · refine gv_run 1 true hD (pcₚ := 56) (lvₚ := [(0, .inr (.inr (some 0))), (1, .inl a1), (2, .inl a2)]) (stₚ := [.inl (-2)]) (hₚ := gr_h I53 J54) (C := (True ∧ True)) rfl ⟨trivial, trivial⟩ ?_
          exact gv_iret hD rfl ⟨I53, J54, rfl, hI53, FI53, FJ54, KGR_I53, KFV_I53, KPL_I53, ⟨_, rfl, by exact gz_m 62 (by omega)⟩⟩
      · refine gv_pick [] rfl ?_
        exact L22 I31 J32 hI31 FI31 FJ32 KGR_I31 KFV_I31 KPL_I31
  · refine gv_run 1 true hD (pcₚ := 9) (lvₚ := [(0, .inr (.inr (some 0))), (1, .inl a1), (2, .inl a2)]) (stₚ := [.inl 0]) (hₚ := gr_h I31 J32) (C := (True ∧ True)) rfl ⟨trivial, trivial⟩ ?_
    exact gv_iret hD rfl ⟨I31, J32, rfl, hI31, FI31, FJ32, KGR_I31, KFV_I31, KPL_I31, ⟨_, rfl, by exact gz_m 63 (by omega)⟩⟩
set_option maxHeartbeats 8000000 in
set_option maxRecDepth 100000 in
theorem r_takes_w {ws0 : List Cond} {tb : String → gz_T} (hws : ∀ w ∈ gr_ws, w ∈ ws0) (htb : tb RX13 = gr_T) (ext : gz_Sh) (I : gr_I) (J : gr_J) (hI : gr_Inv I) (a1 : Int) (ha1 : 0 ≤ a1 ∧ a1 ≤ 7)  : ∃ r hₚ, gz_Ev ws0 tb 1 (yX13_takes, cX13_takes, 3, (some .int)) [.inr (.inr (some 0)), .inl a1] (gr_sh ++ ext) (gr_h I J) r (gr_sh ++ ext) hₚ 0 0 ∧ (∃ (Iₚ : gr_I) (Jₚ : gr_J), hₚ = gr_h Iₚ Jₚ ∧ gr_Inv Iₚ ∧ gr_fr [188] [113] I Iₚ ∧ gr_fj [188] [113] J Jₚ ∧ (∃ z : Int, r = some (.inl z) ∧ 0 ≤ z ∧ z ≤ 60 ∧ (z = I 115 (Int.toNat a1)) ∧ (Iₚ 0 188 = z) ∧ (gr_TV a1 z I Iₚ))) := by
  have FI : gr_fr [188] [113] I I := fun _ _ _ => rfl
  have FJ : gr_fj [188] [113] J J := fun _ _ _ => rfl
  have hD : gv_D (gr_E ws0 tb 0 (yX13_takes, cX13_takes, 3, (some .int)) kX13_takes) := gq_of oX13_takes
  refine gr_ev (d := 0) (l := kX13_takes) (Po := fun r hₚ => (∃ (Iₚ : gr_I) (Jₚ : gr_J), hₚ = gr_h Iₚ Jₚ ∧ gr_Inv Iₚ ∧ gr_fr [188] [113] I Iₚ ∧ gr_fj [188] [113] J Jₚ ∧ (∃ z : Int, r = some (.inl z) ∧ 0 ≤ z ∧ z ≤ 60 ∧ (z = I 115 (Int.toNat a1)) ∧ (Iₚ 0 188 = z) ∧ (gr_TV a1 z I Iₚ)))) htb rfl (Nat.le_of_ble_eq_true rfl) ?_
  have f1 := (gr_b_0_188 hI)
  have L2 : ∀ (n : Nat) (I2 : gr_I) (J3 : gr_J) (v2_4 : Int), (61 - v2_4).toNat < n → gr_Inv I2 → gr_fr [188] [113] I I2 → gr_fj [188] [113] J J3 → ((0 ≤ a1 ∧ a1 ≤ 7) ∧ (0 ≤ v2_4 ∧ v2_4 ≤ 60)) → (gr_TV a1 v2_4 I I2) → gv_X (gr_E ws0 tb 0 (yX13_takes, cX13_takes, 3, (some .int)) kX13_takes) (gv_Q cX13_takes (some .int) (gr_sh ++ ext) (fun r hₚ => (∃ (Iₚ : gr_I) (Jₚ : gr_J), hₚ = gr_h Iₚ Jₚ ∧ gr_Inv Iₚ ∧ gr_fr [188] [113] I Iₚ ∧ gr_fj [188] [113] J Jₚ ∧ (∃ z : Int, r = some (.inl z) ∧ 0 ≤ z ∧ z ≤ 60 ∧ (z = I 115 (Int.toNat a1)) ∧ (Iₚ 0 188 = z) ∧ (gr_TV a1 z I Iₚ))))) (2, [(0, .inr (.inr (some 0))), (1, .inl a1), (2, .inl v2_4)], [], gr_sh ++ ext, gr_h I2 J3) := by
    intro n
    induction n with
    | zero => intro I2 J3 v2_4 hn; exact gz_m 0 (by omega)
    | succ n ih2 =>
      intro I2 J3 v2_4 hn hI2 FI2 FJ3 m_4 e0_4
      obtain ⟨ha1_4, hv2_4⟩ := m_4
      have f5 := (gr_b_0_188 hI2)
      have f6 := (gr_b_115 hI2 (Int.toNat a1))
      refine gv_run 5 true hD (pcₚ := 9) (lvₚ := [(0, .inr (.inr (some 0))), (1, .inl a1), (2, .inl v2_4)]) (stₚ := [.inl (I2 115 (Int.toNat a1)), .inl v2_4]) (hₚ := gr_h I2 J3) (C := (((((True ∧ True) ∧ True) ∧ True) ∧ True) ∧ (0 ≤ a1 ∧ a1 < ((8 : Nat) : Int)))) rfl ⟨⟨⟨⟨⟨trivial, trivial⟩, trivial⟩, trivial⟩, trivial⟩, ⟨by exact gz_m 1 (by omega), by exact gz_m 2 (by omega)⟩⟩ ?_
      rw [FI2 115 (Int.toNat a1) rfl]
      have f7 := (gr_b_115 hI (Int.toNat a1))
      refine gv_icmp_ge (t := 35) hD rfl rfl ⟨⟨by exact gz_m 3 (by omega), by exact gz_m 4 (by omega)⟩, ⟨by exact gz_m 5 (by omega), by exact gz_m 6 (by omega)⟩⟩ (fun c8 => ?_) (fun c8 => ?_)
      · have f9 := (gr_b_115 hI2 (Int.toNat a1))
        refine gv_run 5 true hD (pcₚ := 42) (lvₚ := [(0, .inr (.inr (some 0))), (1, .inl a1), (2, .inl v2_4)]) (stₚ := [.inl (I2 115 (Int.toNat a1)), .inr (.inr (some 0))]) (hₚ := gr_h I2 J3) (C := (((((True ∧ True) ∧ True) ∧ True) ∧ True) ∧ (0 ≤ a1 ∧ a1 < ((8 : Nat) : Int)))) rfl ⟨⟨⟨⟨⟨trivial, trivial⟩, trivial⟩, trivial⟩, trivial⟩, ⟨by exact gz_m 7 (by omega), by exact gz_m 8 (by omega)⟩⟩ ?_
        rw [FI2 115 (Int.toNat a1) rfl]
        have f10 := (gr_b_115 hI (Int.toNat a1))
        refine gv_run 1 true hD (pcₚ := 45) (lvₚ := [(0, .inr (.inr (some 0))), (1, .inl a1), (2, .inl v2_4)]) (stₚ := []) (hₚ := gz_up (gr_h I2 J3) 0 188 (.inl ((I 115 (Int.toNat a1))))) (C := (True ∧ True)) rfl ⟨trivial, trivial⟩ ?_
        refine gr_st hI2 FI2 rfl rfl ⟨⟨by show 0 ≤ _; exact gz_m 9 (by omega), by show _ ≤ 2000; exact gz_m 10 (by omega)⟩, trivial⟩ (fun I11 hI11 FI11 q12 p12 => ?_)
        have f13 := (gr_b_0_188 hI11)
        have f14 := (gr_b_0_188 hI11)
        refine gv_run 2 true hD (pcₚ := 49) (lvₚ := [(0, .inr (.inr (some 0))), (1, .inl a1), (2, .inl v2_4)]) (stₚ := [.inl (I11 0 188)]) (hₚ := gr_h I11 J3) (C := ((True ∧ True) ∧ True)) rfl ⟨⟨trivial, trivial⟩, trivial⟩ ?_
        exact gv_iret hD rfl ⟨I11, J3, rfl, hI11, FI11, FJ3, ⟨_, rfl, by exact gz_m 11 (by omega), by exact gz_m 12 (by omega), by exact gz_m 13 (by omega), by exact gz_m 14 (by omega), (fun j hj => (p12 113 j (fun q => absurd q.1 (by first | exact gz_ne rfl | decide))).trans (e0_4 j (by exact gz_m 15 (by omega))))⟩⟩
      · refine gv_run 7 true hD (pcₚ := 24) (lvₚ := [(0, .inr (.inr (some 0))), (1, .inl a1), (2, .inl v2_4)]) (stₚ := [.inl a1, .inl 60, .inr (.inr (some 114)), .inl v2_4, .inr (.inr (some 113))]) (hₚ := gr_h I2 J3) (C := (((((((True ∧ True) ∧ True) ∧ True) ∧ True) ∧ True) ∧ True) ∧ True)) rfl ⟨⟨⟨⟨⟨⟨⟨trivial, trivial⟩, trivial⟩, trivial⟩, trivial⟩, trivial⟩, trivial⟩, trivial⟩ ?_
        have f15 := (gr_b_114 hI2 (Int.toNat (((60 * a1) + v2_4))))
        refine gv_run 4 true hD (pcₚ := 28) (lvₚ := [(0, .inr (.inr (some 0))), (1, .inl a1), (2, .inl v2_4)]) (stₚ := [.inl (I2 114 (Int.toNat (((60 * a1) + v2_4)))), .inl v2_4, .inr (.inr (some 113))]) (hₚ := gr_h I2 J3) (C := ((((True ∧ True) ∧ True) ∧ True) ∧ (0 ≤ (((60 * a1) + v2_4)) ∧ (((60 * a1) + v2_4)) < ((480 : Nat) : Int)))) rfl ⟨⟨⟨⟨trivial, trivial⟩, trivial⟩, trivial⟩, ⟨by exact gz_m 16 (by omega), by exact gz_m 17 (by omega)⟩⟩ ?_
        rw [FI2 114 (Int.toNat (((60 * a1) + v2_4))) rfl]
        have f16 := (gr_b_114 hI (Int.toNat (((60 * a1) + v2_4))))
        refine gv_run 1 true hD (pcₚ := 29) (lvₚ := [(0, .inr (.inr (some 0))), (1, .inl a1), (2, .inl v2_4)]) (stₚ := []) (hₚ := gz_up (gr_h I2 J3) 113 (Int.toNat v2_4) (.inl ((I 114 (Int.toNat (((60 * a1) + v2_4))))))) (C := (True ∧ (0 ≤ v2_4 ∧ v2_4 < ((2000 : Nat) : Int)))) rfl ⟨trivial, ⟨by exact gz_m 18 (by omega), by exact gz_m 19 (by omega)⟩⟩ ?_
        refine gr_st hI2 FI2 rfl rfl ⟨⟨by show 0 ≤ _; exact gz_m 20 (by omega), by show _ ≤ 95; exact gz_m 21 (by omega)⟩, trivial⟩ (fun I17 hI17 FI17 q18 p18 => ?_)
        have t19 := p18 0 188 (fun q => absurd q.1 (by first | exact gz_ne rfl | decide))
        have f20 := (gr_b_0_188 hI17)
        refine gv_run 2 true hD (pcₚ := 2) (lvₚ := [(2, .inl (v2_4 + 1)), (0, .inr (.inr (some 0))), (1, .inl a1)]) (stₚ := []) (hₚ := gr_h I17 J3) (C := ((True ∧ True) ∧ True)) rfl ⟨⟨trivial, trivial⟩, trivial⟩ ?_
        refine gv_pick [1, 2, 0] rfl ?_
        exact ih2 I17 J3 (v2_4 + 1) (by exact gz_m 22 (by omega)) hI17 FI17 FJ3 (by exact gz_m 23 (by omega)) (gr_TV_st e0_4 (by exact gz_m 24 (by omega)) (by exact gz_m 25 (by omega)) (by exact gz_m 26 (by omega)) p18 q18)
  refine gv_run 2 true hD (pcₚ := 2) (lvₚ := [(2, .inl 0), (0, .inr (.inr (some 0))), (1, .inl a1)]) (stₚ := []) (hₚ := gr_h I J) (C := ((True ∧ True) ∧ True)) rfl ⟨⟨trivial, trivial⟩, trivial⟩ ?_
  refine gv_pick [1, 2, 0] rfl ?_
  exact L2 _ I J 0 (Nat.lt_succ_self _) hI FI FJ (by exact gz_m 27 (by omega)) (fun j hj => absurd hj (by exact gz_m 28 (by omega)))
theorem r_shown_x {ws0 : List Cond} {tb : String → gz_T} (hws : ∀ w ∈ gr_ws, w ∈ ws0) (htb : tb RX13 = gr_T) (ext : gz_Sh) (N9 : Int) : ∀ (nr : Nat) (I : gr_I) (J : gr_J) (hI : gr_Inv I) (a1 : Int) (ha1 : 0 ≤ a1 ∧ a1 ≤ 59) (x0 : gr_PX N9 I) (x1 : a1 < N9) (_ : (60 - a1).toNat < nr), ∃ r hₚ, gz_Ev ws0 tb (2 + nr) (yX13_shown, cX13_shown, 5, (some .int)) [.inr (.inr (some 0)), .inl a1] (gr_sh ++ ext) (gr_h I J) r (gr_sh ++ ext) hₚ 0 0 ∧ (∃ (Iₚ : gr_I) (Jₚ : gr_J), hₚ = gr_h Iₚ Jₚ ∧ gr_Inv Iₚ ∧ gr_fr [70] [58] I Iₚ ∧ gr_fj [70] [58] J Jₚ ∧ (∃ z : Int, r = some (.inl z) ∧ 0 ≤ z ∧ z ≤ 60 ∧ (a1 < z) ∧ (z ≤ N9))) := by
  intro nr I J hI a1 ha1 x0 x1 hn
  obtain ⟨π, hp⟩ := x0
  obtain ⟨r, hₚ, E, Iₚ, Jₚ, e1, e2, e3, e4, z, ez, b1, b2, c1, c2, _⟩ := r_shown hws htb ext π N9 nr I J hI a1 ha1 hp x1 hn
  exact ⟨r, hₚ, E, Iₚ, Jₚ, e1, e2, e3, e4, z, ez, b1, b2, c1, c2⟩
set_option maxHeartbeats 8000000 in
set_option maxRecDepth 100000 in
theorem r_show {ws0 : List Cond} {tb : String → gz_T} (hws : ∀ w ∈ gr_ws, w ∈ ws0) (htb : tb RX13 = gr_T) (ext : gz_Sh) (I : gr_I) (J : gr_J) (hI : gr_Inv I) (a1 : Int) (ha1 : (-2147483648) ≤ a1 ∧ a1 ≤ 2147483647) (KPL_I : gr_PL I) : ∃ r hₚ, gz_Ev ws0 tb 64 (yX13_show, cX13_show, 2, (some .int)) [.inr (.inr (some 0)), .inl a1] (gr_sh ++ ext) (gr_h I J) r (gr_sh ++ ext) hₚ 0 0 ∧ (∃ (Iₚ : gr_I) (Jₚ : gr_J), hₚ = gr_h Iₚ Jₚ ∧ gr_Inv Iₚ ∧ gr_fr [0, 70, 188] [58, 113] I Iₚ ∧ gr_fj [0, 70, 188] [58, 113] J Jₚ ∧ gr_PL Iₚ ∧ (∃ z : Int, r = some (.inl z) ∧ (-1) ≤ z ∧ z ≤ 1000)) := by
  have FI : gr_fr [0, 70, 188] [58, 113] I I := fun _ _ _ => rfl
  have FJ : gr_fj [0, 70, 188] [58, 113] J J := fun _ _ _ => rfl
  have hD : gv_D (gr_E ws0 tb 63 (yX13_show, cX13_show, 2, (some .int)) kX13_show) := gq_of oX13_show
  refine gr_ev (d := 63) (l := kX13_show) (Po := fun r hₚ => (∃ (Iₚ : gr_I) (Jₚ : gr_J), hₚ = gr_h Iₚ Jₚ ∧ gr_Inv Iₚ ∧ gr_fr [0, 70, 188] [58, 113] I Iₚ ∧ gr_fj [0, 70, 188] [58, 113] J Jₚ ∧ gr_PL Iₚ ∧ (∃ z : Int, r = some (.inl z) ∧ (-1) ≤ z ∧ z ≤ 1000))) htb rfl (Nat.le_of_ble_eq_true rfl) ?_
  have f1 := (gr_b_0_188 hI)
  refine gv_run 2 true hD (pcₚ := 2) (lvₚ := [(0, .inr (.inr (some 0))), (1, .inl a1)]) (stₚ := [.inl a1, .inr (.inr (some 0))]) (hₚ := gr_h I J) (C := ((True ∧ True) ∧ True)) rfl ⟨⟨trivial, trivial⟩, trivial⟩ ?_
  obtain ⟨r2, h2, E2, P2⟩ := r_noPlace (ws0 := ws0) (tb := tb) hws htb ext I J hI a1 ⟨by exact gz_m 0 (by omega), by exact gz_m 1 (by omega)⟩ 
  obtain ⟨I3, J4, rfl, hI3, g2, k2, ⟨z2, rfl, q2⟩⟩ := P2
  have FI3 := gr_frt FI g2 rfl rfl
  have FJ4 := gr_fjt FJ k2 rfl rfl
  have t5 := g2 0 188 rfl
  have f6 := (gr_b_0_188 hI3)
  have KPL_I3 := gr_PL_fr KPL_I (fun k => g2 114 k rfl) (fun k => g2 115 k rfl) (fun k => g2 6 k rfl) (g2 0 3 rfl)
  refine gv_callV hD rfl (As := [.inl a1]) (st := []) rfl (by decide) rfl rfl (gr_lV hws rfl) (Nat.le_of_ble_eq_true rfl) (gz_Ev_mono (d := 1) (by decide) E2) ?_
  show gv_X _ _ (5, [(0, .inr (.inr (some 0))), (1, .inl a1)], [.inl z2], gr_sh ++ ext, gr_h I3 J4)
  refine gv_if_eq (t := 10) hD rfl rfl ⟨by exact gz_m 2 (by omega), by exact gz_m 3 (by omega)⟩ (fun c7 => ?_) (fun c7 => ?_)
  · refine gv_run 3 true hD (pcₚ := 15) (lvₚ := [(0, .inr (.inr (some 0))), (1, .inl a1)]) (stₚ := []) (hₚ := gz_up (gr_h I3 J4) 0 70 (.inl 0)) (C := (((True ∧ True) ∧ True) ∧ True)) rfl ⟨⟨⟨trivial, trivial⟩, trivial⟩, trivial⟩ ?_
    refine gr_st hI3 FI3 rfl rfl ⟨⟨by show 0 ≤ _; exact gz_m 4 (by omega), by show _ ≤ 1000; exact gz_m 5 (by omega)⟩, trivial⟩ (fun I8 hI8 FI8 q9 p9 => ?_)
    have t10 := p9 0 188 (by decide)
    have f11 := (gr_b_0_188 hI8)
    have KPL_I8 := gr_PL_fr KPL_I3 (fun k => p9 114 k (fun q => absurd q.1 (by first | exact gz_ne rfl | decide))) (fun k => p9 115 k (fun q => absurd q.1 (by first | exact gz_ne rfl | decide))) (fun k => p9 6 k (fun q => absurd q.1 (by first | exact gz_ne rfl | decide))) (p9 0 3 (by decide))
    refine gv_run 2 true hD (pcₚ := 17) (lvₚ := [(0, .inr (.inr (some 0))), (1, .inl a1)]) (stₚ := [.inl a1, .inr (.inr (some 0))]) (hₚ := gr_h I8 J4) (C := ((True ∧ True) ∧ True)) rfl ⟨⟨trivial, trivial⟩, trivial⟩ ?_
    obtain ⟨r12, h12, E12, P12⟩ := r_takes_w (ws0 := ws0) (tb := tb) hws htb ext I8 J4 hI8 a1 ⟨by exact gz_m 6 (by omega), by exact gz_m 7 (by omega)⟩ 
    obtain ⟨I13, J14, rfl, hI13, g12, k12, ⟨z12, rfl, q12⟩⟩ := P12
    have FI13 := gr_frt FI8 g12 rfl rfl
    have FJ14 := gr_fjt FJ4 k12 rfl rfl
    have f15 := (gr_b_0_188 hI13)
    have KPL_I13 := gr_PL_fr KPL_I8 (fun k => g12 114 k rfl) (fun k => g12 115 k rfl) (fun k => g12 6 k rfl) (g12 0 3 rfl)
    refine gv_callV hD rfl (As := [.inl a1]) (st := []) rfl (by decide) rfl rfl (gr_lV hws rfl) (Nat.le_of_ble_eq_true rfl) (gz_Ev_mono (d := 1) (by decide) E12) ?_
    show gv_X _ _ (20, [(0, .inr (.inr (some 0))), (1, .inl a1)], [.inl z12], gr_sh ++ ext, gr_h I13 J14)
    refine gv_if_ne (t := 25) hD rfl rfl ⟨by exact gz_m 8 (by omega), by exact gz_m 9 (by omega)⟩ (fun c16 => ?_) (fun c16 => ?_)
    · refine gv_run 2 true hD (pcₚ := 27) (lvₚ := [(0, .inr (.inr (some 0))), (1, .inl a1)]) (stₚ := [.inl 0, .inr (.inr (some 0))]) (hₚ := gr_h I13 J14) (C := ((True ∧ True) ∧ True)) rfl ⟨⟨trivial, trivial⟩, trivial⟩ ?_
      have t17 := (gr_PX_tk KPL_I8 (p := a1) (n := z12) ⟨by exact gz_m 10 (by omega), by exact gz_m 11 (by omega)⟩ (by exact gz_m 12 (by omega)) (by exact gz_m 13 (by omega)) q12.2.2.2.2 (fun k => g12 6 k rfl) (g12 0 3 rfl)).2
      obtain ⟨r18, h18, E18, P18⟩ := r_shown_x (ws0 := ws0) (tb := tb) hws htb ext z12 61 I13 J14 hI13 0 ⟨by exact gz_m 14 (by omega), by exact gz_m 15 (by omega)⟩ (gr_PX_tk KPL_I8 (p := a1) (n := z12) ⟨by exact gz_m 16 (by omega), by exact gz_m 17 (by omega)⟩ (by exact gz_m 18 (by omega)) (by exact gz_m 19 (by omega)) q12.2.2.2.2 (fun k => g12 6 k rfl) (g12 0 3 rfl)).1 (by exact gz_m 20 (by omega)) (by exact gz_m 21 (by omega))
      obtain ⟨I19, J20, rfl, hI19, g18, k18, ⟨z18, rfl, q18⟩⟩ := P18
      have FI19 := gr_frt FI13 g18 rfl rfl
      have FJ20 := gr_fjt FJ14 k18 rfl rfl
      have t21 := g18 0 188 rfl
      have f22 := (gr_b_0_188 hI19)
      have KPL_I19 := gr_PL_fr KPL_I13 (fun k => g18 114 k rfl) (fun k => g18 115 k rfl) (fun k => g18 6 k rfl) (g18 0 3 rfl)
      refine gv_callV hD rfl (As := [.inl 0]) (st := []) rfl (by decide) rfl rfl (gr_lV hws rfl) (Nat.le_of_ble_eq_true rfl) (gz_Ev_mono (d := 63) (by decide) E18) ?_
      show gv_X _ _ (30, [(0, .inr (.inr (some 0))), (1, .inl a1)], [.inl z18], gr_sh ++ ext, gr_h I19 J20)
      have f23 := (gr_b_0_70 hI19)
      refine gv_run 3 true hD (pcₚ := 35) (lvₚ := [(0, .inr (.inr (some 0))), (1, .inl a1)]) (stₚ := [.inl (I19 0 70)]) (hₚ := gr_h I19 J20) (C := (((True ∧ True) ∧ True) ∧ True)) rfl ⟨⟨⟨trivial, trivial⟩, trivial⟩, trivial⟩ ?_
      exact gv_iret hD rfl ⟨I19, J20, rfl, hI19, FI19, FJ20, KPL_I19, ⟨_, rfl, by exact gz_m 22 (by omega)⟩⟩
    · refine gv_run 1 true hD (pcₚ := 24) (lvₚ := [(0, .inr (.inr (some 0))), (1, .inl a1)]) (stₚ := [.inl (-1)]) (hₚ := gr_h I13 J14) (C := (True ∧ True)) rfl ⟨trivial, trivial⟩ ?_
      exact gv_iret hD rfl ⟨I13, J14, rfl, hI13, FI13, FJ14, KPL_I13, ⟨_, rfl, by exact gz_m 23 (by omega)⟩⟩
  · refine gv_run 1 true hD (pcₚ := 9) (lvₚ := [(0, .inr (.inr (some 0))), (1, .inl a1)]) (stₚ := [.inl 0]) (hₚ := gr_h I3 J4) (C := (True ∧ True)) rfl ⟨trivial, trivial⟩ ?_
    exact gv_iret hD rfl ⟨I3, J4, rfl, hI3, FI3, FJ4, KPL_I3, ⟨_, rfl, by exact gz_m 24 (by omega)⟩⟩
