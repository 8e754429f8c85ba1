theorem gc_mkT_b {sh : gz_Sh} {ro : Nat → Nat} {A : gc_A} {I I1 I2 I3 : gr_I} {n : Int} (h : gc_mkT A I1 I2 n) (hT : gc_Ts sh ro A I) (hn : n ≤ I 8 1) (p : ∀ q j, ¬ (q = 39 ∧ j = 3) → I1 q j = I q j) (hm : ∀ k, I3 21 k = I2 21 k) : gc_mkT A I I3 n := fun j hj q hq => by
  obtain ⟨q9, b1, b2, b3⟩ := hT j (by omega)
  cases b1.symm.trans hq
  have h0 := h j hj _ hq
  unfold gc_ts7 at h0 ⊢
  obtain ⟨a0, a1, a2, a3, a4, a5, a6⟩ := h0
  exact ⟨((hm _).trans a0).trans (p _ _ (fun e => by omega)), ((hm _).trans a1).trans (p _ _ (fun e => by omega)), ((hm _).trans a2).trans (p _ _ (fun e => by omega)), ((hm _).trans a3).trans (p _ _ (fun e => by omega)), ((hm _).trans a4).trans (p _ _ (fun e => by omega)), ((hm _).trans a5).trans (p _ _ (fun e => by omega)), ((hm _).trans a6).trans (p _ _ (fun e => by omega))⟩
set_option maxHeartbeats 4000000 in
set_option maxRecDepth 100000 in
theorem d_X6_begin {ws0 : List Cond} {tb : String → gz_T} (hws : gc_Ws ws0) (htb : gc_tbs tb) (sh : gz_Sh) (ro : Nat → Nat) (I : gr_I) (J : gr_J) (A : gc_A) (hI : gc_Inv ro I)  (hb : gc_Base sh ro A)  (x0 : gc_Ts sh ro A I) : ∃ r h', gz_Ev ws0 tb 4 (yX6_begin, cX6_begin, 1, none) [.inr (.inr (some 39))] sh (gc_h sh I J A) r sh h' 0 0 ∧ (∃ (I' : gr_I) (J' : gr_J), h' = gc_h sh I' J' A ∧ gc_Inv ro I' ∧ (∀ q j : Nat, ((q = 39 ∧ j = 3) ∨ (q = 1 ∧ j = 18) ∨ q = 21 ∨ (q = 23 ∧ j = 5) ∨ (q = 23 ∧ j = 6) ∨ (q = 23 ∧ j = 7) ∨ (q = 23 ∧ j = 8)) ∨ I' q j = I q j) ∧ (∀ q j : Nat, ((q = 23 ∧ j = 9)) ∨ J' q j = J q j) ∧ r = none ∧ (gc_TK I') ∧ (gc_LT I') ∧ (I' 21 0 = I 2 1) ∧ (I' 21 1 = I 4 1) ∧ (I' 21 2 = I 6 1) ∧ (I' 21 3 = I 8 1) ∧ (I' 21 4 = I 1 13) ∧ (I' 21 5 = I 1 17) ∧ (I' 21 6 = I 1 5) ∧ (gc_mkT A I I' (I 8 1)) ∧ (∀ f : Nat, f < 96 → I' 21 (63 + f) = I 15 f)) := by
  have FI : ∀ q j : Nat, ((q = 39 ∧ j = 3) ∨ (q = 1 ∧ j = 18) ∨ q = 21 ∨ (q = 23 ∧ j = 5) ∨ (q = 23 ∧ j = 6) ∨ (q = 23 ∧ j = 7) ∨ (q = 23 ∧ j = 8)) ∨ I q j = I q j := fun _ _ => Or.inr rfl
  have FJ : ∀ q j : Nat, ((q = 23 ∧ j = 9)) ∨ J q j = J q j := fun _ _ => Or.inr rfl
  have A_39_0 : A 39 0 = some 1 := gc_bA hb rfl
  have A_39_1 : A 39 1 = some 23 := gc_bA hb rfl
  have B_1 : 1 < 1000000 := by decide
  have B_23 : 23 < 1000000 := by decide
  have B_39 : 39 < 1000000 := by decide
  have R_1 : ro 1 = 22 := gc_bR hb (by decide) rfl
  have R_2 : ro 2 = 9 := gc_bR hb (by decide) rfl
  have R_21 : ro 21 = 70 := gc_bR hb (by decide) rfl
  have R_23 : ro 23 = 3 := gc_bR hb (by decide) rfl
  have R_39 : ro 39 = 42 := gc_bR hb (by decide) rfl
  have R_4 : ro 4 = 11 := gc_bR hb (by decide) rfl
  have R_6 : ro 6 = 6 := gc_bR hb (by decide) rfl
  have R_8 : ro 8 = 6 := gc_bR hb (by decide) rfl
  have S_1 : sh[1]? = some (false, 8, 21) := gc_bS hb rfl
  have S_23 : sh[23]? = some (false, 9, 10) := gc_bS hb rfl
  have S_39 : sh[39]? = some (false, 6, 19) := gc_bS hb rfl
  have hD : gv_D (gc_E6 ws0 tb 3 (yX6_begin, cX6_begin, 1, none) kX6_begin) := gq_ok oX6_begin
  refine gc_ev6 (d := 3) (l := kX6_begin) (Po := fun r h' => (∃ (I' : gr_I) (J' : gr_J), h' = gc_h sh I' J' A ∧ gc_Inv ro I' ∧ (∀ q j : Nat, ((q = 39 ∧ j = 3) ∨ (q = 1 ∧ j = 18) ∨ q = 21 ∨ (q = 23 ∧ j = 5) ∨ (q = 23 ∧ j = 6) ∨ (q = 23 ∧ j = 7) ∨ (q = 23 ∧ j = 8)) ∨ I' q j = I q j) ∧ (∀ q j : Nat, ((q = 23 ∧ j = 9)) ∨ J' q j = J q j) ∧ r = none ∧ (gc_TK I') ∧ (gc_LT I') ∧ (I' 21 0 = I 2 1) ∧ (I' 21 1 = I 4 1) ∧ (I' 21 2 = I 6 1) ∧ (I' 21 3 = I 8 1) ∧ (I' 21 4 = I 1 13) ∧ (I' 21 5 = I 1 17) ∧ (I' 21 6 = I 1 5) ∧ (gc_mkT A I I' (I 8 1)) ∧ (∀ f : Nat, f < 96 → I' 21 (63 + f) = I 15 f))) htb rfl (Nat.le_of_ble_eq_true rfl) ?_
  have f1 := (show 0 ≤ I 23 1 ∧ I 23 1 ≤ 1000 from gc_in hI R_23 rfl rfl)
  have f2 := (show 0 ≤ I 23 5 ∧ I 23 5 ≤ 1000 from gc_in hI R_23 rfl rfl)
  have f3 := (show 0 ≤ I 23 6 ∧ I 23 6 ≤ 1001 from gc_in hI R_23 rfl rfl)
  have f4 := (show 0 ≤ I 23 7 ∧ I 23 7 ≤ 125 from gc_in hI R_23 rfl rfl)
  have f5 := (show (-1) ≤ I 21 0 ∧ I 21 0 ≤ 12000 from gc_in hI R_21 rfl rfl)
  have f6 := (show (-1) ≤ I 21 1 ∧ I 21 1 ≤ 12000 from gc_in hI R_21 rfl rfl)
  have f7 := (show (-1) ≤ I 21 2 ∧ I 21 2 ≤ 12000 from gc_in hI R_21 rfl rfl)
  have f8 := (show (-1) ≤ I 21 3 ∧ I 21 3 ≤ 12000 from gc_in hI R_21 rfl rfl)
  have f9 := (show (-1) ≤ I 21 4 ∧ I 21 4 ≤ 12000 from gc_in hI R_21 rfl rfl)
  have f10 := (show (-1) ≤ I 21 5 ∧ I 21 5 ≤ 12000 from gc_in hI R_21 rfl rfl)
  have f11 := (show (-1) ≤ I 21 6 ∧ I 21 6 ≤ 12000 from gc_in hI R_21 rfl rfl)
  have f12 := (show 0 ≤ I 2 1 ∧ I 2 1 ≤ 32 from gc_in hI R_2 rfl rfl)
  have f13 := (show 0 ≤ I 4 1 ∧ I 4 1 ≤ 96 from gc_in hI R_4 rfl rfl)
  have f14 := (show 0 ≤ I 6 1 ∧ I 6 1 ≤ 8 from gc_in hI R_6 rfl rfl)
  have f15 := (show 0 ≤ I 8 1 ∧ I 8 1 ≤ 8 from gc_in hI R_8 rfl rfl)
  have f16 := (show 0 ≤ I 1 13 ∧ I 1 13 ≤ 64 from gc_in hI R_1 rfl rfl)
  have f17 := (show 0 ≤ I 1 17 ∧ I 1 17 ≤ 12000 from gc_in hI R_1 rfl rfl)
  have f18 := (show (-1) ≤ I 1 5 ∧ I 1 5 ≤ 7 from gc_in hI R_1 rfl rfl)
  refine gv_run 2 true hD (pc' := 2) (lv' := [(0, .inr (.inr (some 39)))]) (st' := [.inl 0, .inr (.inr (some 39))]) (h' := gc_h sh I J A) (C := ((True ∧ True) ∧ True)) rfl ⟨⟨trivial, trivial⟩, trivial⟩ ?_
  refine gv_put hD rfl rfl S_39 ⟨by decide, B_39⟩ rfl trivial ?_
  refine gc_st (k := 3) hI S_39 rfl R_39 (lo := 0) (hi := 6) rfl rfl (by omega) (by omega) (fun I19 hI19 q20 p20 => ?_)
  have FI19 := gc_frs (W := fun q j => (q = 39 ∧ j = 3) ∨ (q = 1 ∧ j = 18) ∨ q = 21 ∨ (q = 23 ∧ j = 5) ∨ (q = 23 ∧ j = 6) ∨ (q = 23 ∧ j = 7) ∨ (q = 23 ∧ j = 8)) FI (Or.inl ⟨rfl, rfl⟩) p20
  have t21 := p20 23 1 (fun h => absurd h.2 (by decide))
  have t22 := p20 23 5 (fun h => absurd h.2 (by decide))
  have t23 := p20 23 6 (fun h => absurd h.2 (by decide))
  have t24 := p20 23 7 (fun h => absurd h.2 (by decide))
  have t25 := p20 21 0 (fun h => absurd h.2 (by decide))
  have t26 := p20 21 1 (fun h => absurd h.2 (by decide))
  have t27 := p20 21 2 (fun h => absurd h.2 (by decide))
  have t28 := p20 21 3 (fun h => absurd h.1 (by decide))
  have t29 := p20 21 4 (fun h => absurd h.2 (by decide))
  have t30 := p20 21 5 (fun h => absurd h.2 (by decide))
  have t31 := p20 21 6 (fun h => absurd h.2 (by decide))
  have t32 := p20 2 1 (fun h => absurd h.2 (by decide))
  have t33 := p20 4 1 (fun h => absurd h.2 (by decide))
  have t34 := p20 6 1 (fun h => absurd h.2 (by decide))
  have t35 := p20 8 1 (fun h => absurd h.2 (by decide))
  have t36 := p20 1 13 (fun h => absurd h.2 (by decide))
  have t37 := p20 1 17 (fun h => absurd h.2 (by decide))
  have t38 := p20 1 5 (fun h => absurd h.2 (by decide))
  show gv_X _ _ (5, [(0, .inr (.inr (some 39)))], [], sh, gc_h sh I19 J A)
  refine gv_run 1 true hD (pc' := 6) (lv' := [(0, .inr (.inr (some 39)))]) (st' := [.inr (.inr (some 39))]) (h' := gc_h sh I19 J A) (C := (True ∧ True)) rfl ⟨trivial, trivial⟩ ?_
  refine gv_get hD rfl rfl S_39 ⟨by decide, B_39⟩ (gc_hA S_39 rfl A_39_0) ?_
  show gv_X _ _ (9, [(0, .inr (.inr (some 39)))], [.inr (.inr (some 1))], sh, gc_h sh I19 J A)
  obtain ⟨r39, h39, E39, P39⟩ := d_X8_mark_w (ws0 := ws0) (tb := tb) hws htb sh ro I19 J A hI19   hb    (gc_Ts_fr x0 (by omega)) 
  obtain ⟨I40, J41, rfl, hI40, g39, k39, ⟨rfl, q39⟩⟩ := P39
  have FI40 := gc_frc (W := fun q j => (q = 39 ∧ j = 3) ∨ (q = 1 ∧ j = 18) ∨ q = 21 ∨ (q = 23 ∧ j = 5) ∨ (q = 23 ∧ j = 6) ∨ (q = 23 ∧ j = 7) ∨ (q = 23 ∧ j = 8)) (V := fun q j => (q = 1 ∧ j = 18) ∨ q = 21) FI19 (fun q j h => (h.elim (fun h => (Or.inr (Or.inl h))) (fun h => (Or.inr (Or.inr (Or.inl h)))))) g39
  have t42 := (g39 23 1).resolve_left (fun h => h.elim (fun h => absurd h.2 (by decide)) (fun h => absurd h (by decide)))
  have t43 := (g39 23 5).resolve_left (fun h => h.elim (fun h => absurd h.2 (by decide)) (fun h => absurd h (by decide)))
  have t44 := (g39 23 6).resolve_left (fun h => h.elim (fun h => absurd h.2 (by decide)) (fun h => absurd h (by decide)))
  have t45 := (g39 23 7).resolve_left (fun h => h.elim (fun h => absurd h.2 (by decide)) (fun h => absurd h (by decide)))
  have t46 := (g39 2 1).resolve_left (fun h => h.elim (fun h => absurd h.2 (by decide)) (fun h => absurd h (by decide)))
  have t47 := (g39 4 1).resolve_left (fun h => h.elim (fun h => absurd h.2 (by decide)) (fun h => absurd h (by decide)))
  have t48 := (g39 6 1).resolve_left (fun h => h.elim (fun h => absurd h.2 (by decide)) (fun h => absurd h (by decide)))
  have t49 := (g39 8 1).resolve_left (fun h => h.elim (fun h => absurd h.2 (by decide)) (fun h => absurd h (by decide)))
  have t50 := (g39 1 13).resolve_left (fun h => h.elim (fun h => absurd h.2 (by decide)) (fun h => absurd h (by decide)))
  have t51 := (g39 1 17).resolve_left (fun h => h.elim (fun h => absurd h.2 (by decide)) (fun h => absurd h (by decide)))
  have t52 := (g39 1 5).resolve_left (fun h => h.elim (fun h => absurd h.2 (by decide)) (fun h => absurd h (by decide)))
  have f53 := (show (-1) ≤ I40 21 0 ∧ I40 21 0 ≤ 12000 from gc_in hI40 R_21 rfl rfl)
  have f54 := (show (-1) ≤ I40 21 1 ∧ I40 21 1 ≤ 12000 from gc_in hI40 R_21 rfl rfl)
  have f55 := (show (-1) ≤ I40 21 2 ∧ I40 21 2 ≤ 12000 from gc_in hI40 R_21 rfl rfl)
  have f56 := (show (-1) ≤ I40 21 3 ∧ I40 21 3 ≤ 12000 from gc_in hI40 R_21 rfl rfl)
  have f57 := (show (-1) ≤ I40 21 4 ∧ I40 21 4 ≤ 12000 from gc_in hI40 R_21 rfl rfl)
  have f58 := (show (-1) ≤ I40 21 5 ∧ I40 21 5 ≤ 12000 from gc_in hI40 R_21 rfl rfl)
  have f59 := (show (-1) ≤ I40 21 6 ∧ I40 21 6 ≤ 12000 from gc_in hI40 R_21 rfl rfl)
  obtain rfl : J = J41 := funext fun q => funext fun j => ((k39 q j).resolve_left id).symm
  refine gv_callV hD rfl (As := []) (st := []) rfl B_1 S_1 rfl (gc_lV6 hws rfl) (Nat.le_of_ble_eq_true rfl) (gz_Ev_mono (d := 2) (by decide) E39) ?_
  show gv_X _ _ (12, [(0, .inr (.inr (some 39)))], [], sh, gc_h sh I40 J A)
  refine gv_run 1 true hD (pc' := 13) (lv' := [(0, .inr (.inr (some 39)))]) (st' := [.inr (.inr (some 39))]) (h' := gc_h sh I40 J A) (C := (True ∧ True)) rfl ⟨trivial, trivial⟩ ?_
  refine gv_get hD rfl rfl S_39 ⟨by decide, B_39⟩ (gc_hA S_39 rfl A_39_1) ?_
  show gv_X _ _ (16, [(0, .inr (.inr (some 39)))], [.inr (.inr (some 23))], sh, gc_h sh I40 J A)
  obtain ⟨r60, h60, E60, P60⟩ := d_X9_rewind (ws0 := ws0) (tb := tb) hws htb sh ro I40 J A hI40 23  (gc_b23 hb)     
  obtain ⟨I61, J62, rfl, hI61, g60, k60, ⟨rfl, V60_0, V60_1, V60_2, V60_3, V60_4, q60⟩⟩ := P60
  have FI61 := gc_frc (W := fun q j => (q = 39 ∧ j = 3) ∨ (q = 1 ∧ j = 18) ∨ q = 21 ∨ (q = 23 ∧ j = 5) ∨ (q = 23 ∧ j = 6) ∨ (q = 23 ∧ j = 7) ∨ (q = 23 ∧ j = 8)) (V := fun q j => (q = 23 ∧ j = 5) ∨ (q = 23 ∧ j = 6) ∨ (q = 23 ∧ j = 7) ∨ (q = 23 ∧ j = 8)) FI40 (fun q j h => (h.elim (fun h => (Or.inr (Or.inr (Or.inr (Or.inl h))))) (fun h => (h.elim (fun h => (Or.inr (Or.inr (Or.inr (Or.inr (Or.inl h)))))) (fun h => (h.elim (fun h => (Or.inr (Or.inr (Or.inr (Or.inr (Or.inr (Or.inl h))))))) (fun h => (Or.inr (Or.inr (Or.inr (Or.inr (Or.inr (Or.inr h))))))))))))) g60
  have FJ62 := gc_frc (W := fun q j => (q = 23 ∧ j = 9)) (V := fun q j => (q = 23 ∧ j = 9)) FJ (fun q j h => h) k60
  have t63 := (g60 23 1).resolve_left (fun h => h.elim (fun h => absurd h.2 (by decide)) (fun h => h.elim (fun h => absurd h.2 (by decide)) (fun h => h.elim (fun h => absurd h.2 (by decide)) (fun h => absurd h.2 (by decide)))))
  have t64 := (g60 21 0).resolve_left (fun h => h.elim (fun h => absurd h.2 (by decide)) (fun h => h.elim (fun h => absurd h.2 (by decide)) (fun h => h.elim (fun h => absurd h.2 (by decide)) (fun h => absurd h.2 (by decide)))))
  have t65 := (g60 21 1).resolve_left (fun h => h.elim (fun h => absurd h.2 (by decide)) (fun h => h.elim (fun h => absurd h.2 (by decide)) (fun h => h.elim (fun h => absurd h.2 (by decide)) (fun h => absurd h.2 (by decide)))))
  have t66 := (g60 21 2).resolve_left (fun h => h.elim (fun h => absurd h.2 (by decide)) (fun h => h.elim (fun h => absurd h.2 (by decide)) (fun h => h.elim (fun h => absurd h.2 (by decide)) (fun h => absurd h.2 (by decide)))))
  have t67 := (g60 21 3).resolve_left (fun h => h.elim (fun h => absurd h.2 (by decide)) (fun h => h.elim (fun h => absurd h.2 (by decide)) (fun h => h.elim (fun h => absurd h.2 (by decide)) (fun h => absurd h.2 (by decide)))))
  have t68 := (g60 21 4).resolve_left (fun h => h.elim (fun h => absurd h.2 (by decide)) (fun h => h.elim (fun h => absurd h.2 (by decide)) (fun h => h.elim (fun h => absurd h.2 (by decide)) (fun h => absurd h.2 (by decide)))))
  have t69 := (g60 21 5).resolve_left (fun h => h.elim (fun h => absurd h.1 (by decide)) (fun h => h.elim (fun h => absurd h.2 (by decide)) (fun h => h.elim (fun h => absurd h.2 (by decide)) (fun h => absurd h.2 (by decide)))))
  have t70 := (g60 21 6).resolve_left (fun h => h.elim (fun h => absurd h.2 (by decide)) (fun h => h.elim (fun h => absurd h.1 (by decide)) (fun h => h.elim (fun h => absurd h.2 (by decide)) (fun h => absurd h.2 (by decide)))))
  have t71 := (g60 2 1).resolve_left (fun h => h.elim (fun h => absurd h.2 (by decide)) (fun h => h.elim (fun h => absurd h.2 (by decide)) (fun h => h.elim (fun h => absurd h.2 (by decide)) (fun h => absurd h.2 (by decide)))))
  have t72 := (g60 4 1).resolve_left (fun h => h.elim (fun h => absurd h.2 (by decide)) (fun h => h.elim (fun h => absurd h.2 (by decide)) (fun h => h.elim (fun h => absurd h.2 (by decide)) (fun h => absurd h.2 (by decide)))))
  have t73 := (g60 6 1).resolve_left (fun h => h.elim (fun h => absurd h.2 (by decide)) (fun h => h.elim (fun h => absurd h.2 (by decide)) (fun h => h.elim (fun h => absurd h.2 (by decide)) (fun h => absurd h.2 (by decide)))))
  have t74 := (g60 8 1).resolve_left (fun h => h.elim (fun h => absurd h.2 (by decide)) (fun h => h.elim (fun h => absurd h.2 (by decide)) (fun h => h.elim (fun h => absurd h.2 (by decide)) (fun h => absurd h.2 (by decide)))))
  have t75 := (g60 1 13).resolve_left (fun h => h.elim (fun h => absurd h.2 (by decide)) (fun h => h.elim (fun h => absurd h.2 (by decide)) (fun h => h.elim (fun h => absurd h.2 (by decide)) (fun h => absurd h.2 (by decide)))))
  have t76 := (g60 1 17).resolve_left (fun h => h.elim (fun h => absurd h.2 (by decide)) (fun h => h.elim (fun h => absurd h.2 (by decide)) (fun h => h.elim (fun h => absurd h.2 (by decide)) (fun h => absurd h.2 (by decide)))))
  have t77 := (g60 1 5).resolve_left (fun h => h.elim (fun h => absurd h.1 (by decide)) (fun h => h.elim (fun h => absurd h.2 (by decide)) (fun h => h.elim (fun h => absurd h.2 (by decide)) (fun h => absurd h.2 (by decide)))))
  have f78 := (show 0 ≤ I61 23 5 ∧ I61 23 5 ≤ 1000 from gc_in hI61 R_23 rfl rfl)
  have f79 := (show 0 ≤ I61 23 6 ∧ I61 23 6 ≤ 1001 from gc_in hI61 R_23 rfl rfl)
  have f80 := (show 0 ≤ I61 23 7 ∧ I61 23 7 ≤ 125 from gc_in hI61 R_23 rfl rfl)
  have KLT_I61 : gc_LT I61 := q60.2
  have KTK_I61 : gc_TK I61 := And.intro V60_0 (And.intro V60_1 (And.intro V60_2 (And.intro V60_3 V60_4)))
  have t81 := gc_TK_mo KTK_I61
  clear V60_0 V60_1 V60_2 V60_3 V60_4
  refine gv_callV hD rfl (As := []) (st := []) rfl B_23 S_23 rfl (gc_lV6 hws rfl) (Nat.le_of_ble_eq_true rfl) (gz_Ev_mono (d := 3) (by decide) E60) ?_
  show gv_X _ _ (19, [(0, .inr (.inr (some 39)))], [], sh, gc_h sh I61 J62 A)
  exact gv_vret hD rfl ⟨I61, J62, rfl, hI61, FI61, FJ62, ⟨rfl, KTK_I61, KLT_I61, by omega, by omega, by omega, by omega, by omega, by omega, by omega, (by have h9 := q39.2.2.2.2.2.2.2.1; rw [show I19 8 1 = I 8 1 from by omega] at h9; exact gc_mkT_b h9 x0 (Int.le_refl _) p20 (fun k => ((g60 21 k).resolve_left (by omega)))), (fun f hf => (((g60 21 (63 + f)).resolve_left (by omega))).trans ((q39.2.2.2.2.2.2.2.2 f hf).trans (p20 15 f (fun h => absurd h.1 (by decide)))))⟩⟩
