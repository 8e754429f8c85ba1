/-! PARITY, the class's side: the LINS of a TONGUE -/
def gs_LS (Ir I : gr_I) (A : gc_A) (p : Nat) : Prop := ∀ i q : Nat, (i : Int) < I p 13 → A (p + 16) i = some q → I q 1 = gs_lf Ir i
set_option maxHeartbeats 8000000 in
set_option maxRecDepth 100000 in
theorem d_X11_linsOf_p {ws0 : List Cond} {tb : String → gz_T} (hws : gc_Ws ws0) (htb : gc_tbs tb) (sh : gz_Sh) (ro : Nat → Nat) (I : gr_I) (J : gr_J) (A : gc_A) (hI : gc_Inv ro I) (p : Nat) (Ir : gr_I) (a1 : Int) (hp : gc_isTongue sh ro A p) (ha1 : (-2147483648) ≤ a1 ∧ a1 ≤ 2147483647) (x0 : gc_Ls sh ro A p I) (x1 : gs_LS Ir I A p) : ∃ r hₚ, gz_Ev ws0 tb 1 (yX11_linsOf, cX11_linsOf, 4, (some .int)) [.inr (.inr (some p)), .inl a1] sh (gc_h sh I J A) r sh hₚ 0 0 ∧ (hₚ = gc_h sh I J A ∧ (∃ z : Int, r = some (.inl z) ∧ 0 ≤ z ∧ z ≤ 384 ∧ (z = gs_cf (gs_lf Ir) a1 (Int.toNat (I p 13))))) := by
  obtain ⟨S_p, R_p, B_p, A_p_0, h_p_1, A_p_1, h_p_3, A_p_2, S_p_5, R_p_5, B_p_5, A_p_3, S_p_6, R_p_6, B_p_6, A_p_4, h_p_7, A_p_5, S_p_9, R_p_9, B_p_9, A_p_7, S_p_10, R_p_10, B_p_10, A_p_8, h_p_11, A_p_9, S_p_13, R_p_13, B_p_13, A_p_10, S_p_14, R_p_14, B_p_14, A_p_12, S_p_15, R_p_15, B_p_15, A_p_14, S_p_16, R_p_16, B_p_16, A_p_15, h_p_17⟩ := id hp
  replace R_p := gz_hi R_p
  replace B_p := gz_hi B_p
  replace R_p_5 := gz_hi R_p_5
  replace B_p_5 := gz_hi B_p_5
  replace R_p_6 := gz_hi R_p_6
  replace B_p_6 := gz_hi B_p_6
  replace R_p_9 := gz_hi R_p_9
  replace B_p_9 := gz_hi B_p_9
  replace R_p_10 := gz_hi R_p_10
  replace B_p_10 := gz_hi B_p_10
  replace R_p_13 := gz_hi R_p_13
  replace B_p_13 := gz_hi B_p_13
  replace R_p_14 := gz_hi R_p_14
  replace B_p_14 := gz_hi B_p_14
  replace R_p_15 := gz_hi R_p_15
  replace B_p_15 := gz_hi B_p_15
  replace R_p_16 := gz_hi R_p_16
  replace B_p_16 := gz_hi B_p_16
  obtain ⟨S_p_1, R_p_1, B_p_1, A_p_1_0, S_p_1_1, R_p_1_1, B_p_1_1, Q0_p_1, Q1_p_1, Q2_p_1⟩ := id h_p_1
  replace R_p_1 := gz_hi R_p_1
  replace B_p_1 := gz_hi B_p_1
  replace R_p_1_1 := gz_hi R_p_1_1
  replace B_p_1_1 := gz_hi B_p_1_1
  obtain ⟨S_p_3, R_p_3, B_p_3, A_p_3_0, S_p_3_1, R_p_3_1, B_p_3_1, Q0_p_3, Q1_p_3, Q2_p_3⟩ := id h_p_3
  replace R_p_3 := gz_hi R_p_3
  replace B_p_3 := gz_hi B_p_3
  replace R_p_3_1 := gz_hi R_p_3_1
  replace B_p_3_1 := gz_hi B_p_3_1
  obtain ⟨S_p_7, R_p_7, B_p_7, A_p_7_0, S_p_7_1, R_p_7_1, B_p_7_1, Q0_p_7, Q1_p_7, Q2_p_7⟩ := id h_p_7
  replace R_p_7 := gz_hi R_p_7
  replace B_p_7 := gz_hi B_p_7
  replace R_p_7_1 := gz_hi R_p_7_1
  replace B_p_7_1 := gz_hi B_p_7_1
  obtain ⟨S_p_11, R_p_11, B_p_11, A_p_11_0, S_p_11_1, R_p_11_1, B_p_11_1, Q0_p_11, Q1_p_11, Q2_p_11⟩ := id h_p_11
  replace R_p_11 := gz_hi R_p_11
  replace B_p_11 := gz_hi B_p_11
  replace R_p_11_1 := gz_hi R_p_11_1
  replace B_p_11_1 := gz_hi B_p_11_1
  obtain ⟨S_p_17, R_p_17, B_p_17, A_p_17_0, S_20, R_20, B_20, A_p_17_1, S_p_17_1, R_p_17_1, B_p_17_1, A_p_17_2, S_p_17_2, R_p_17_2, B_p_17_2, A_p_17_3, S_p_17_3, R_p_17_3, B_p_17_3, A_p_17_4, S_p_17_4, R_p_17_4, B_p_17_4, A_p_17_5, S_p_17_5, R_p_17_5, B_p_17_5, S_p_17_6, R_p_17_6, B_p_17_6, S_p_17_7, R_p_17_7, B_p_17_7⟩ := id h_p_17
  replace R_p_17 := gz_hi R_p_17
  replace B_p_17 := gz_hi B_p_17
  replace R_20 := gz_hi R_20
  replace B_20 := gz_hi B_20
  replace R_p_17_1 := gz_hi R_p_17_1
  replace B_p_17_1 := gz_hi B_p_17_1
  replace R_p_17_2 := gz_hi R_p_17_2
  replace B_p_17_2 := gz_hi B_p_17_2
  replace R_p_17_3 := gz_hi R_p_17_3
  replace B_p_17_3 := gz_hi B_p_17_3
  replace R_p_17_4 := gz_hi R_p_17_4
  replace B_p_17_4 := gz_hi B_p_17_4
  replace R_p_17_5 := gz_hi R_p_17_5
  replace B_p_17_5 := gz_hi B_p_17_5
  replace R_p_17_6 := gz_hi R_p_17_6
  replace B_p_17_6 := gz_hi B_p_17_6
  replace R_p_17_7 := gz_hi R_p_17_7
  replace B_p_17_7 := gz_hi B_p_17_7
  have hD : gv_D (gc_E11 ws0 tb 0 (yX11_linsOf, cX11_linsOf, 4, (some .int)) kX11_linsOf) := gq_of oX11_linsOf
  refine gc_ev11 (d := 0) (l := kX11_linsOf) (Po := fun r hₚ => (hₚ = gc_h sh I J A ∧ (∃ z : Int, r = some (.inl z) ∧ 0 ≤ z ∧ z ≤ 384 ∧ (z = gs_cf (gs_lf Ir) a1 (Int.toNat (I p 13)))))) htb rfl (Nat.le_of_ble_eq_true rfl) ?_
  have f1 := gz_hi ((show 0 ≤ I p 13 ∧ I p 13 ≤ 384 from gc_in2 hI (gz_sh R_p) rfl rfl rfl))
  have L4 : ∀ (n9 : Nat) (v2_2 : Int) (v3_2 : Int), (385 - v3_2).toNat < n9 → (((-2147483648) ≤ a1 ∧ a1 ≤ 2147483647) ∧ (0 ≤ v2_2 ∧ v2_2 ≤ 384) ∧ (0 ≤ v3_2 ∧ v3_2 ≤ 384) ∧ (v2_2 ≤ v3_2) ∧ (v3_2 ≤ I p 13)) → (v2_2 = gs_cf (gs_lf Ir) a1 (Int.toNat v3_2)) → gv_X (gc_E11 ws0 tb 0 (yX11_linsOf, cX11_linsOf, 4, (some .int)) kX11_linsOf) (gv_Q cX11_linsOf (some .int) sh (fun r hₚ => (hₚ = gc_h sh I J A ∧ (∃ z : Int, r = some (.inl z) ∧ 0 ≤ z ∧ z ≤ 384 ∧ (z = gs_cf (gs_lf Ir) a1 (Int.toNat (I p 13))))))) (4, [(0, .inr (.inr (some p))), (1, .inl a1), (2, .inl v2_2), (3, .inl v3_2)], [], sh, gc_h sh I J A) := by
    intro n9
    induction n9 with
    | zero => intro v2_2 v3_2 hn; (/-0-/first | omega | (simp only [gz_hd] at *; omega))
    | succ n9 ih4 =>
      intro v2_2 v3_2 hn m_2 e1_2
      obtain ⟨ha1_2, hv2_2, hv3_2, e0_2, e2_2⟩ := gz_h5 m_2
      refine gv_run 2 true hD (pcₚ := 6) (lvₚ := [(0, .inr (.inr (some p))), (1, .inl a1), (2, .inl v2_2), (3, .inl v3_2)]) (stₚ := [.inr (.inr (some p)), .inl v3_2]) (hₚ := gc_h sh I J A) (C := ((True ∧ True) ∧ True)) rfl ⟨⟨trivial, trivial⟩, trivial⟩ ?_
      refine gv_get hD rfl rfl S_p ⟨by decide, (gz_sh B_p)⟩ (gc_hI S_p rfl) ?_
      show gv_X _ _ (9, [(0, .inr (.inr (some p))), (1, .inl a1), (2, .inl v2_2), (3, .inl v3_2)], [.inl (I p 13), .inl v3_2], sh, gc_h sh I J A)
      refine gv_icmp_ge (t := 34) hD rfl rfl ⟨⟨by (/-1-/first | (have o1 := gz_sh hv3_2; omega) | (simp only [gz_hd] at *; omega)), by (/-2-/first | (have o1 := gz_sh hv3_2; omega) | (simp only [gz_hd] at *; omega))⟩, ⟨by (/-3-/first | (have o1 := gz_sh f1; omega) | (simp only [gz_hd] at *; omega)), by (/-4-/first | (have o1 := gz_sh f1; omega) | (simp only [gz_hd] at *; omega))⟩⟩ (fun c5 => ?_) (fun c5 => ?_)
      · show gv_X _ _ (34, [(0, .inr (.inr (some p))), (1, .inl a1), (2, .inl v2_2), (3, .inl v3_2)], [], sh, gc_h sh I J A)
        refine gv_run 1 true hD (pcₚ := 35) (lvₚ := [(0, .inr (.inr (some p))), (1, .inl a1), (2, .inl v2_2), (3, .inl v3_2)]) (stₚ := [.inl v2_2]) (hₚ := gc_h sh I J A) (C := (True ∧ True)) rfl ⟨trivial, trivial⟩ ?_
        exact gv_iret hD rfl ⟨rfl, ⟨_, rfl, by (/-5-/first | (have o1 := gz_sh hv2_2; omega) | (simp only [gz_hd] at *; omega)), by (/-6-/first | (have o1 := gz_sh hv2_2; omega) | (simp only [gz_hd] at *; omega)), (by rw [show Int.toNat (I p 13) = Int.toNat v3_2 from by (/-7-/first | (have o1 := gz_sh e2_2; have o2 := gz_sh f1; omega) | (simp only [gz_hd] at *; omega))]; exact e1_2)⟩⟩
      · show gv_X _ _ (12, [(0, .inr (.inr (some p))), (1, .inl a1), (2, .inl v2_2), (3, .inl v3_2)], [], sh, gc_h sh I J A)
        refine gv_run 1 true hD (pcₚ := 13) (lvₚ := [(0, .inr (.inr (some p))), (1, .inl a1), (2, .inl v2_2), (3, .inl v3_2)]) (stₚ := [.inr (.inr (some p))]) (hₚ := gc_h sh I J A) (C := (True ∧ True)) rfl ⟨trivial, trivial⟩ ?_
        refine gv_get hD rfl rfl S_p ⟨by decide, (gz_sh B_p)⟩ (gc_hA S_p rfl A_p_14) ?_
        show gv_X _ _ (16, [(0, .inr (.inr (some p))), (1, .inl a1), (2, .inl v2_2), (3, .inl v3_2)], [.inr (.inr (some (p + 16)))], sh, gc_h sh I J A)
        refine gv_run 1 true hD (pcₚ := 17) (lvₚ := [(0, .inr (.inr (some p))), (1, .inl a1), (2, .inl v2_2), (3, .inl v3_2)]) (stₚ := [.inl v3_2, .inr (.inr (some (p + 16)))]) (hₚ := gc_h sh I J A) (C := (True ∧ True)) rfl ⟨trivial, trivial⟩ ?_
        obtain ⟨t6_, A_t6, h_t6, G_t6, U_t6, V_t6⟩ := x0 (Int.toNat v3_2) (by (/-8-/first | (have o1 := gz_sh hv3_2; omega) | (simp only [gz_hd] at *; omega)))
        obtain ⟨S_t6, R_t6, B_t6, A_t6_5, S_t6__1, R_t6__1, B_t6__1, A_t6_6, S_t6__2, R_t6__2, B_t6__2, A_t6_7, S_t6__3, R_t6__3, B_t6__3, A_t6_9, S_t6__4, R_t6__4, B_t6__4, A_t6_10, S_t6__5, R_t6__5, B_t6__5, A_t6_11, S_t6__6, R_t6__6, B_t6__6, A_t6_13, S_t6__7, R_t6__7, B_t6__7, A_t6_15, S_t6__8, R_t6__8, B_t6__8⟩ := id h_t6
        replace R_t6 := gz_hi R_t6
        replace B_t6 := gz_hi B_t6
        replace R_t6__1 := gz_hi R_t6__1
        replace B_t6__1 := gz_hi B_t6__1
        replace R_t6__2 := gz_hi R_t6__2
        replace B_t6__2 := gz_hi B_t6__2
        replace R_t6__3 := gz_hi R_t6__3
        replace B_t6__3 := gz_hi B_t6__3
        replace R_t6__4 := gz_hi R_t6__4
        replace B_t6__4 := gz_hi B_t6__4
        replace R_t6__5 := gz_hi R_t6__5
        replace B_t6__5 := gz_hi B_t6__5
        replace R_t6__6 := gz_hi R_t6__6
        replace B_t6__6 := gz_hi B_t6__6
        replace R_t6__7 := gz_hi R_t6__7
        replace B_t6__7 := gz_hi B_t6__7
        replace R_t6__8 := gz_hi R_t6__8
        replace B_t6__8 := gz_hi B_t6__8
        refine gv_aald hD rfl S_p_16 ⟨by decide, by decide⟩ ⟨by decide, (gz_sh B_p_16)⟩ ⟨by (/-9-/first | (have o1 := gz_sh hv3_2; omega) | (simp only [gz_hd] at *; omega)), by (/-10-/first | (have o1 := gz_sh f1; omega) | (simp only [gz_hd] at *; omega))⟩ ((gc_aA S_p_16 rfl).trans A_t6) ?_
        show gv_X _ _ (18, [(0, .inr (.inr (some p))), (1, .inl a1), (2, .inl v2_2), (3, .inl v3_2)], [.inr (.inr (some t6_))], sh, gc_h sh I J A)
        have f7 := gz_hi ((show 0 ≤ I t6_ 1 ∧ I t6_ 1 ≤ 95 from gc_in2 hI (gz_sh R_t6) rfl rfl rfl))
        refine gv_get hD rfl rfl S_t6 ⟨by decide, (gz_sh B_t6)⟩ (gc_hI S_t6 rfl) ?_
        show gv_X _ _ (21, [(0, .inr (.inr (some p))), (1, .inl a1), (2, .inl v2_2), (3, .inl v3_2)], [.inl (I t6_ 1)], sh, gc_h sh I J A)
        have t8 := gz_hi ((x1 (Int.toNat v3_2) t6_ (by (/-11-/first | (have o1 := gz_sh hv3_2; omega) | (simp only [gz_hd] at *; omega))) A_t6))
        refine gv_run 1 true hD (pcₚ := 22) (lvₚ := [(0, .inr (.inr (some p))), (1, .inl a1), (2, .inl v2_2), (3, .inl v3_2)]) (stₚ := [.inl a1, .inl (I t6_ 1)]) (hₚ := gc_h sh I J A) (C := (True ∧ True)) rfl ⟨trivial, trivial⟩ ?_
        refine gv_icmp_ne (t := 28) hD rfl rfl ⟨⟨by (/-12-/first | (have o1 := gz_sh f7; omega) | (simp only [gz_hd] at *; omega)), by (/-13-/first | (have o1 := gz_sh f7; omega) | (simp only [gz_hd] at *; omega))⟩, ⟨by (/-14-/first | omega | (simp only [gz_hd] at *; omega)), by (/-15-/first | omega | (simp only [gz_hd] at *; omega))⟩⟩ (fun c9 => ?_) (fun c9 => ?_)
        · show gv_X _ _ (28, [(0, .inr (.inr (some p))), (1, .inl a1), (2, .inl v2_2), (3, .inl v3_2)], [], sh, gc_h sh I J A)
          refine gv_run 2 true hD (pcₚ := 4) (lvₚ := [(3, .inl (v3_2 + 1)), (0, .inr (.inr (some p))), (1, .inl a1), (2, .inl v2_2)]) (stₚ := []) (hₚ := gc_h sh I J A) (C := ((True ∧ True) ∧ True)) rfl ⟨⟨trivial, trivial⟩, trivial⟩ ?_
          refine gv_pick [1, 2, 3, 0] rfl ?_
          exact ih4 v2_2 (v3_2 + 1) (by (/-16-/first | (have o1 := gz_sh f1; have o2 := gz_sh hv3_2; omega) | (simp only [gz_hd] at *; omega))) (by (/-17-/first | (and_intros; (omega); (omega); (have o1 := gz_sh hv2_2; omega); (have o1 := gz_sh hv2_2; omega); (have o1 := gz_sh hv3_2; omega); (have o1 := gz_sh f1; omega); (have o1 := gz_sh e0_2; omega); (omega)) | (simp only [gz_hd] at *; omega))) (by rw [gs_cf_n (by (/-18-/first | (have o1 := gz_sh hv3_2; omega) | (simp only [gz_hd] at *; omega))) (by (/-19-/first | (have o1 := gz_sh t8; omega) | (simp only [gz_hd] at *; omega))), ← e1_2])
        · show gv_X _ _ (25, [(0, .inr (.inr (some p))), (1, .inl a1), (2, .inl v2_2), (3, .inl v3_2)], [], sh, gc_h sh I J A)
          refine gv_run 3 true hD (pcₚ := 4) (lvₚ := [(3, .inl (v3_2 + 1)), (2, .inl (v2_2 + 1)), (0, .inr (.inr (some p))), (1, .inl a1)]) (stₚ := []) (hₚ := gc_h sh I J A) (C := (((True ∧ True) ∧ True) ∧ True)) rfl ⟨⟨⟨trivial, trivial⟩, trivial⟩, trivial⟩ ?_
          refine gv_pick [2, 3, 1, 0] rfl ?_
          exact ih4 (v2_2 + 1) (v3_2 + 1) (by (/-20-/first | (have o1 := gz_sh f1; have o2 := gz_sh hv3_2; omega) | (simp only [gz_hd] at *; omega))) (by (/-21-/first | (and_intros; (have o1 := gz_sh f7; omega); (have o1 := gz_sh f7; omega); (have o1 := gz_sh hv2_2; omega); (have o1 := gz_sh e0_2; have o2 := gz_sh f1; omega); (have o1 := gz_sh hv3_2; omega); (have o1 := gz_sh f1; omega); (have o1 := gz_sh e0_2; omega); (omega)) | (simp only [gz_hd] at *; omega))) (by rw [gs_cf_y (by (/-22-/first | (have o1 := gz_sh hv3_2; omega) | (simp only [gz_hd] at *; omega))) (by (/-23-/first | (have o1 := gz_sh t8; omega) | (simp only [gz_hd] at *; omega))), ← e1_2])
  refine gv_run 4 true hD (pcₚ := 4) (lvₚ := [(3, .inl 0), (2, .inl 0), (0, .inr (.inr (some p))), (1, .inl a1)]) (stₚ := []) (hₚ := gc_h sh I J A) (C := ((((True ∧ True) ∧ True) ∧ True) ∧ True)) rfl ⟨⟨⟨⟨trivial, trivial⟩, trivial⟩, trivial⟩, trivial⟩ ?_
  refine gv_pick [2, 3, 1, 0] rfl ?_
  exact L4 _ 0 0 (Nat.lt_succ_self _) (by (/-24-/first | (and_intros; (omega); (omega); (omega); (omega); (omega); (omega); (omega); (have o1 := gz_sh f1; omega)) | (simp only [gz_hd] at *; omega))) rfl
