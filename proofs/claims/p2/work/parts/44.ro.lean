set_option maxHeartbeats 4000000 in
set_option maxRecDepth 100000 in
theorem r_lin {ws0 : List Cond} {tb : String → gz_T} (hws : ∀ w ∈ gr_ws, w ∈ ws0) (htb : tb RX13 = gr_T) (ext : gz_Sh) (B : Int) (hB : B ≤ 1500) (I : gr_I) (J : gr_J) (hI : gr_Inv I)   (x0 : I 0 71 = 5 ∨ I 0 73 ≤ I 0 69) (x1 : I 0 72 ≤ I 0 69) (x2 : I 0 71 = 0 ∨ (I 0 72 < I 0 73 ∧ I 0 72 < I 0 69)) (x3 : I 0 71 = 3 → 2 ≤ I 0 73 - I 0 72 ∧ I 0 73 - I 0 72 ≤ 14) (x4 : I 0 72 ≤ I 0 73) (x5 : 0 ≤ I 0 6) (x6 : I 0 59 + I 0 69 - I 0 72 ≤ 1900) (KLN_I : gr_LN B I) : ∃ r h', gz_Ev ws0 tb 13 (yX13_lin, cX13_lin, 7, (some .boolean)) [.inr (.inr (some 0))] (gr_sh ++ ext) (gr_h I J) r (gr_sh ++ ext) h' 0 0 ∧ (∃ (I' : gr_I) (J' : gr_J), h' = gr_h I' J' ∧ gr_Inv I' ∧ gr_fr [59, 71, 72, 73, 74, 75, 76, 77, 101, 106, 118, 119, 120] [19, 41, 42, 43, 44, 45, 46, 47, 48, 49, 50, 51, 57, 68, 69, 70, 71, 72, 73, 74] I I' ∧ gr_fj [59, 71, 72, 73, 74, 75, 76, 77, 101, 106, 118, 119, 120] [19, 41, 42, 43, 44, 45, 46, 47, 48, 49, 50, 51, 57, 68, 69, 70, 71, 72, 73, 74] J J' ∧ gr_LN B I' ∧ (∃ z : Int, r = some (.inl z) ∧ 0 ≤ z ∧ z ≤ 1 ∧ (I' 0 71 = 5 ∨ I' 0 73 ≤ I' 0 69) ∧ (I' 0 72 ≤ I' 0 69) ∧ (I' 0 71 = 0 ∨ (I' 0 72 < I' 0 73 ∧ I' 0 72 < I' 0 69)) ∧ (I' 0 71 = 3 → 2 ≤ I' 0 73 - I' 0 72 ∧ I' 0 73 - I' 0 72 ≤ 14) ∧ (I' 0 72 ≤ I' 0 73) ∧ (I' 0 69 = I 0 69) ∧ (I 0 73 ≤ I' 0 73) ∧ (I 0 72 ≤ I' 0 72) ∧ (I' 0 59 - I' 0 72 ≤ I 0 59 - I 0 72))) := by
  have FI : gr_fr [59, 71, 72, 73, 74, 75, 76, 77, 101, 106, 118, 119, 120] [19, 41, 42, 43, 44, 45, 46, 47, 48, 49, 50, 51, 57, 68, 69, 70, 71, 72, 73, 74] I I := fun _ _ _ => rfl
  have FJ : gr_fj [59, 71, 72, 73, 74, 75, 76, 77, 101, 106, 118, 119, 120] [19, 41, 42, 43, 44, 45, 46, 47, 48, 49, 50, 51, 57, 68, 69, 70, 71, 72, 73, 74] J J := fun _ _ _ => rfl
  have hD : gv_D (gr_E ws0 tb 12 (yX13_lin, cX13_lin, 7, (some .boolean)) kX13_lin) := gq_ok oX13_lin
  refine gr_ev (d := 12) (l := kX13_lin) (Po := fun r h' => (∃ (I' : gr_I) (J' : gr_J), h' = gr_h I' J' ∧ gr_Inv I' ∧ gr_fr [59, 71, 72, 73, 74, 75, 76, 77, 101, 106, 118, 119, 120] [19, 41, 42, 43, 44, 45, 46, 47, 48, 49, 50, 51, 57, 68, 69, 70, 71, 72, 73, 74] I I' ∧ gr_fj [59, 71, 72, 73, 74, 75, 76, 77, 101, 106, 118, 119, 120] [19, 41, 42, 43, 44, 45, 46, 47, 48, 49, 50, 51, 57, 68, 69, 70, 71, 72, 73, 74] J J' ∧ gr_LN B I' ∧ (∃ z : Int, r = some (.inl z) ∧ 0 ≤ z ∧ z ≤ 1 ∧ (I' 0 71 = 5 ∨ I' 0 73 ≤ I' 0 69) ∧ (I' 0 72 ≤ I' 0 69) ∧ (I' 0 71 = 0 ∨ (I' 0 72 < I' 0 73 ∧ I' 0 72 < I' 0 69)) ∧ (I' 0 71 = 3 → 2 ≤ I' 0 73 - I' 0 72 ∧ I' 0 73 - I' 0 72 ≤ 14) ∧ (I' 0 72 ≤ I' 0 73) ∧ (I' 0 69 = I 0 69) ∧ (I 0 73 ≤ I' 0 73) ∧ (I 0 72 ≤ I' 0 72) ∧ (I' 0 59 - I' 0 72 ≤ I 0 59 - I 0 72)))) htb rfl (Nat.le_of_ble_eq_true rfl) ?_
  have f1 := (show 0 ≤ I 0 71 ∧ I 0 71 ≤ 5 from (hI 0 71).1)
  have f2 := (show 0 ≤ I 0 72 ∧ I 0 72 ≤ 1000 from (hI 0 72).1)
  have f3 := (show 0 ≤ I 0 73 ∧ I 0 73 ≤ 1001 from (hI 0 73).1)
  have f4 := (show 0 ≤ I 0 69 ∧ I 0 69 ≤ 1000 from (hI 0 69).1)
  have f5 := (show (-1) ≤ I 0 6 ∧ I 0 6 ≤ 7 from (hI 0 6).1)
  have f6 := (show 0 ≤ I 0 59 ∧ I 0 59 ≤ 2000 from (hI 0 59).1)
  have L49 : ∀ (I7 : gr_I) (J8 : gr_J) , gr_Inv I7 → gr_fr [59, 71, 72, 73, 74, 75, 76, 77, 101, 106, 118, 119, 120] [19, 41, 42, 43, 44, 45, 46, 47, 48, 49, 50, 51, 57, 68, 69, 70, 71, 72, 73, 74] I I7 → gr_fj [59, 71, 72, 73, 74, 75, 76, 77, 101, 106, 118, 119, 120] [19, 41, 42, 43, 44, 45, 46, 47, 48, 49, 50, 51, 57, 68, 69, 70, 71, 72, 73, 74] J J8 → gr_LN B I7 → (I7 0 71 = 5 ∨ I7 0 73 ≤ I7 0 69) → (I7 0 72 ≤ I7 0 69) → (I7 0 71 = 0 ∨ (I7 0 72 < I7 0 73 ∧ I7 0 72 < I7 0 69)) → (I7 0 71 = 3 → 2 ≤ I7 0 73 - I7 0 72 ∧ I7 0 73 - I7 0 72 ≤ 14) → (I7 0 72 ≤ I7 0 73) → (I7 0 69 = I 0 69) → (I 0 73 ≤ I7 0 73) → (I 0 72 ≤ I7 0 72) → (I7 0 6 = I 0 6) → (I7 0 59 - I7 0 72 ≤ I 0 59 - I 0 72) → gv_X (gr_E ws0 tb 12 (yX13_lin, cX13_lin, 7, (some .boolean)) kX13_lin) (gv_Q cX13_lin (some .boolean) (gr_sh ++ ext) (fun r h' => (∃ (I' : gr_I) (J' : gr_J), h' = gr_h I' J' ∧ gr_Inv I' ∧ gr_fr [59, 71, 72, 73, 74, 75, 76, 77, 101, 106, 118, 119, 120] [19, 41, 42, 43, 44, 45, 46, 47, 48, 49, 50, 51, 57, 68, 69, 70, 71, 72, 73, 74] I I' ∧ gr_fj [59, 71, 72, 73, 74, 75, 76, 77, 101, 106, 118, 119, 120] [19, 41, 42, 43, 44, 45, 46, 47, 48, 49, 50, 51, 57, 68, 69, 70, 71, 72, 73, 74] J J' ∧ gr_LN B I' ∧ (∃ z : Int, r = some (.inl z) ∧ 0 ≤ z ∧ z ≤ 1 ∧ (I' 0 71 = 5 ∨ I' 0 73 ≤ I' 0 69) ∧ (I' 0 72 ≤ I' 0 69) ∧ (I' 0 71 = 0 ∨ (I' 0 72 < I' 0 73 ∧ I' 0 72 < I' 0 69)) ∧ (I' 0 71 = 3 → 2 ≤ I' 0 73 - I' 0 72 ∧ I' 0 73 - I' 0 72 ≤ 14) ∧ (I' 0 72 ≤ I' 0 73) ∧ (I' 0 69 = I 0 69) ∧ (I 0 73 ≤ I' 0 73) ∧ (I 0 72 ≤ I' 0 72) ∧ (I' 0 59 - I' 0 72 ≤ I 0 59 - I 0 72))))) (49, [(0, .inr (.inr (some 0)))], [], gr_sh ++ ext, gr_h I7 J8) := by
    intro I7 J8 hI7 FI7 FJ8 KLN_I7 e0_9 e1_9 e2_9 e3_9 e4_9 e5_9 e6_9 e7_9 e8_9 e9_9
    have f10 := (show 0 ≤ I7 0 71 ∧ I7 0 71 ≤ 5 from (hI7 0 71).1)
    have f11 := (show 0 ≤ I7 0 72 ∧ I7 0 72 ≤ 1000 from (hI7 0 72).1)
    have f12 := (show 0 ≤ I7 0 73 ∧ I7 0 73 ≤ 1001 from (hI7 0 73).1)
    have f13 := (show 0 ≤ I7 0 69 ∧ I7 0 69 ≤ 1000 from (hI7 0 69).1)
    have f14 := (show (-1) ≤ I7 0 6 ∧ I7 0 6 ≤ 7 from (hI7 0 6).1)
    have f15 := (show 0 ≤ I7 0 59 ∧ I7 0 59 ≤ 2000 from (hI7 0 59).1)
    refine gv_run 2 true hD (pc' := 51) (lv' := [(0, .inr (.inr (some 0)))]) (st' := [.inl 5, .inr (.inr (some 0))]) (h' := gr_h I7 J8) (C := ((True ∧ True) ∧ True)) rfl ⟨⟨trivial, trivial⟩, trivial⟩ ?_
    obtain ⟨r16, h16, E16, P16⟩ := r_no_ (ws0 := ws0) (tb := tb) hws htb ext I7 J8 hI7 5 ⟨by omega, by omega⟩ 
    obtain ⟨I17, J18, rfl, hI17, g16, k16, ⟨z16, rfl, q16⟩⟩ := P16
    have FI17 := gr_frt FI7 g16 rfl rfl
    have FJ18 := gr_fjt FJ8 k16 rfl rfl
    have t19 := g16 0 71 rfl
    have t20 := g16 0 72 rfl
    have t21 := g16 0 73 rfl
    have t22 := g16 0 69 rfl
    have t23 := g16 0 6 rfl
    have t24 := g16 0 59 rfl
    have f25 := (show 0 ≤ I17 0 71 ∧ I17 0 71 ≤ 5 from (hI17 0 71).1)
    have f26 := (show 0 ≤ I17 0 72 ∧ I17 0 72 ≤ 1000 from (hI17 0 72).1)
    have f27 := (show 0 ≤ I17 0 73 ∧ I17 0 73 ≤ 1001 from (hI17 0 73).1)
    have f28 := (show 0 ≤ I17 0 69 ∧ I17 0 69 ≤ 1000 from (hI17 0 69).1)
    have f29 := (show (-1) ≤ I17 0 6 ∧ I17 0 6 ≤ 7 from (hI17 0 6).1)
    have f30 := (show 0 ≤ I17 0 59 ∧ I17 0 59 ≤ 2000 from (hI17 0 59).1)
    have KLN_I17 := gr_LN_fr KLN_I7 (fun k => g16 19 k rfl) (by omega) (by omega)
    refine gv_callV hD rfl (As := [.inl 5]) (st := []) rfl (by decide) rfl rfl (gr_lV hws rfl) (Nat.le_of_ble_eq_true rfl) (gz_Ev_mono (d := 2) (by decide) E16) ?_
    show gv_X _ _ (54, [(0, .inr (.inr (some 0)))], [.inl z16], gr_sh ++ ext, gr_h I17 J18)
    exact gv_zret hD rfl (by omega) ⟨I17, J18, rfl, hI17, FI17, FJ18, KLN_I17, ⟨_, rfl, by omega, by omega, by omega, by omega, by omega, by omega, by omega, by omega, by omega, by omega, by omega⟩⟩
  have L83 : ∀ (n : Nat) (I31 : gr_I) (J32 : gr_J) (v1_33 : Int) (v2_33 : Int) (v3_33 : Int) (v4_33 : Int), (5 - v4_33).toNat < n → gr_Inv I31 → gr_fr [59, 71, 72, 73, 74, 75, 76, 77, 101, 106, 118, 119, 120] [19, 41, 42, 43, 44, 45, 46, 47, 48, 49, 50, 51, 57, 68, 69, 70, 71, 72, 73, 74] I I31 → gr_fj [59, 71, 72, 73, 74, 75, 76, 77, 101, 106, 118, 119, 120] [19, 41, 42, 43, 44, 45, 46, 47, 48, 49, 50, 51, 57, 68, 69, 70, 71, 72, 73, 74] J J32 → gr_LN B I31 → 0 ≤ v1_33 ∧ v1_33 ≤ 7 → 0 ≤ v2_33 ∧ v2_33 ≤ 1000 → 0 ≤ v3_33 ∧ v3_33 ≤ 95 → 0 ≤ v4_33 ∧ v4_33 ≤ 4 → (I 0 72 + 2 ≤ I31 0 72) → (I31 0 71 = 5 ∨ I31 0 73 ≤ I31 0 69) → (I31 0 72 ≤ I31 0 69) → (I31 0 71 = 0 ∨ (I31 0 72 < I31 0 73 ∧ I31 0 72 < I31 0 69)) → (I31 0 71 = 3 → 2 ≤ I31 0 73 - I31 0 72 ∧ I31 0 73 - I31 0 72 ≤ 14) → (I31 0 72 ≤ I31 0 73) → (I31 0 69 = I 0 69) → (I 0 73 ≤ I31 0 73) → (I 0 72 ≤ I31 0 72) → (I31 0 6 = I 0 6) → (I31 0 59 - I31 0 72 ≤ I 0 59 - I 0 72) → gv_X (gr_E ws0 tb 12 (yX13_lin, cX13_lin, 7, (some .boolean)) kX13_lin) (gv_Q cX13_lin (some .boolean) (gr_sh ++ ext) (fun r h' => (∃ (I' : gr_I) (J' : gr_J), h' = gr_h I' J' ∧ gr_Inv I' ∧ gr_fr [59, 71, 72, 73, 74, 75, 76, 77, 101, 106, 118, 119, 120] [19, 41, 42, 43, 44, 45, 46, 47, 48, 49, 50, 51, 57, 68, 69, 70, 71, 72, 73, 74] I I' ∧ gr_fj [59, 71, 72, 73, 74, 75, 76, 77, 101, 106, 118, 119, 120] [19, 41, 42, 43, 44, 45, 46, 47, 48, 49, 50, 51, 57, 68, 69, 70, 71, 72, 73, 74] J J' ∧ gr_LN B I' ∧ (∃ z : Int, r = some (.inl z) ∧ 0 ≤ z ∧ z ≤ 1 ∧ (I' 0 71 = 5 ∨ I' 0 73 ≤ I' 0 69) ∧ (I' 0 72 ≤ I' 0 69) ∧ (I' 0 71 = 0 ∨ (I' 0 72 < I' 0 73 ∧ I' 0 72 < I' 0 69)) ∧ (I' 0 71 = 3 → 2 ≤ I' 0 73 - I' 0 72 ∧ I' 0 73 - I' 0 72 ≤ 14) ∧ (I' 0 72 ≤ I' 0 73) ∧ (I' 0 69 = I 0 69) ∧ (I 0 73 ≤ I' 0 73) ∧ (I 0 72 ≤ I' 0 72) ∧ (I' 0 59 - I' 0 72 ≤ I 0 59 - I 0 72))))) (83, [(0, .inr (.inr (some 0))), (1, .inl v1_33), (2, .inl v2_33), (3, .inl v3_33), (4, .inl v4_33)], [], gr_sh ++ ext, gr_h I31 J32) := by
    intro n
    induction n with
    | zero => intro I31 J32 v1_33 v2_33 v3_33 v4_33 hn; omega
    | succ n ih83 =>
      intro I31 J32 v1_33 v2_33 v3_33 v4_33 hn hI31 FI31 FJ32 KLN_I31 hv1_33 hv2_33 hv3_33 hv4_33 e0_33 e1_33 e2_33 e3_33 e4_33 e5_33 e6_33 e7_33 e8_33 e9_33 e10_33
      have f34 := (show 0 ≤ I31 0 71 ∧ I31 0 71 ≤ 5 from (hI31 0 71).1)
      have f35 := (show 0 ≤ I31 0 72 ∧ I31 0 72 ≤ 1000 from (hI31 0 72).1)
      have f36 := (show 0 ≤ I31 0 73 ∧ I31 0 73 ≤ 1001 from (hI31 0 73).1)
      have f37 := (show 0 ≤ I31 0 69 ∧ I31 0 69 ≤ 1000 from (hI31 0 69).1)
      have f38 := (show (-1) ≤ I31 0 6 ∧ I31 0 6 ≤ 7 from (hI31 0 6).1)
      have f39 := (show 0 ≤ I31 0 59 ∧ I31 0 59 ≤ 2000 from (hI31 0 59).1)
      have L125 : ∀ (n : Nat) (I40 : gr_I) (J41 : gr_J) , (1001 - I40 0 72).toNat < n → gr_Inv I40 → gr_fr [59, 71, 72, 73, 74, 75, 76, 77, 101, 106, 118, 119, 120] [19, 41, 42, 43, 44, 45, 46, 47, 48, 49, 50, 51, 57, 68, 69, 70, 71, 72, 73, 74] I I40 → gr_fj [59, 71, 72, 73, 74, 75, 76, 77, 101, 106, 118, 119, 120] [19, 41, 42, 43, 44, 45, 46, 47, 48, 49, 50, 51, 57, 68, 69, 70, 71, 72, 73, 74] J J41 → gr_LN B I40 → 0 ≤ v1_33 ∧ v1_33 ≤ 7 → 0 ≤ v2_33 ∧ v2_33 ≤ 1000 → 0 ≤ v3_33 ∧ v3_33 ≤ 95 → ((I 0 72 + 3 ≤ I40 0 72) ∨ (I 0 72 + 2 ≤ I40 0 72 ∧ (I40 0 71 = 3 ∨ I40 0 71 = 2))) → (I40 0 71 = 5 ∨ I40 0 73 ≤ I40 0 69) → (I40 0 72 ≤ I40 0 69) → (I40 0 71 = 0 ∨ (I40 0 72 < I40 0 73 ∧ I40 0 72 < I40 0 69)) → (I40 0 71 = 3 → 2 ≤ I40 0 73 - I40 0 72 ∧ I40 0 73 - I40 0 72 ≤ 14) → (I40 0 72 ≤ I40 0 73) → (I40 0 69 = I 0 69) → (I 0 73 ≤ I40 0 73) → (I 0 72 ≤ I40 0 72) → (I40 0 6 = I 0 6) → (I40 0 59 - I40 0 72 ≤ I 0 59 - I 0 72) → gv_X (gr_E ws0 tb 12 (yX13_lin, cX13_lin, 7, (some .boolean)) kX13_lin) (gv_Q cX13_lin (some .boolean) (gr_sh ++ ext) (fun r h' => (∃ (I' : gr_I) (J' : gr_J), h' = gr_h I' J' ∧ gr_Inv I' ∧ gr_fr [59, 71, 72, 73, 74, 75, 76, 77, 101, 106, 118, 119, 120] [19, 41, 42, 43, 44, 45, 46, 47, 48, 49, 50, 51, 57, 68, 69, 70, 71, 72, 73, 74] I I' ∧ gr_fj [59, 71, 72, 73, 74, 75, 76, 77, 101, 106, 118, 119, 120] [19, 41, 42, 43, 44, 45, 46, 47, 48, 49, 50, 51, 57, 68, 69, 70, 71, 72, 73, 74] J J' ∧ gr_LN B I' ∧ (∃ z : Int, r = some (.inl z) ∧ 0 ≤ z ∧ z ≤ 1 ∧ (I' 0 71 = 5 ∨ I' 0 73 ≤ I' 0 69) ∧ (I' 0 72 ≤ I' 0 69) ∧ (I' 0 71 = 0 ∨ (I' 0 72 < I' 0 73 ∧ I' 0 72 < I' 0 69)) ∧ (I' 0 71 = 3 → 2 ≤ I' 0 73 - I' 0 72 ∧ I' 0 73 - I' 0 72 ≤ 14) ∧ (I' 0 72 ≤ I' 0 73) ∧ (I' 0 69 = I 0 69) ∧ (I 0 73 ≤ I' 0 73) ∧ (I 0 72 ≤ I' 0 72) ∧ (I' 0 59 - I' 0 72 ≤ I 0 59 - I 0 72))))) (125, [(0, .inr (.inr (some 0))), (1, .inl v1_33), (2, .inl v2_33), (3, .inl v3_33)], [], gr_sh ++ ext, gr_h I40 J41) := by
        intro n
        induction n with
        | zero => intro I40 J41 hn; omega
        | succ n ih125 =>
          intro I40 J41 hn hI40 FI40 FJ41 KLN_I40 hv1_33_42 hv2_33_42 hv3_33_42 e0_42 e1_42 e2_42 e3_42 e4_42 e5_42 e6_42 e7_42 e8_42 e9_42 e10_42
          have f43 := (show 0 ≤ I40 0 71 ∧ I40 0 71 ≤ 5 from (hI40 0 71).1)
          have f44 := (show 0 ≤ I40 0 72 ∧ I40 0 72 ≤ 1000 from (hI40 0 72).1)
          have f45 := (show 0 ≤ I40 0 73 ∧ I40 0 73 ≤ 1001 from (hI40 0 73).1)
          have f46 := (show 0 ≤ I40 0 69 ∧ I40 0 69 ≤ 1000 from (hI40 0 69).1)
          have f47 := (show (-1) ≤ I40 0 6 ∧ I40 0 6 ≤ 7 from (hI40 0 6).1)
          have f48 := (show 0 ≤ I40 0 59 ∧ I40 0 59 ≤ 2000 from (hI40 0 59).1)
          have L141 : 0 ≤ v1_33 ∧ v1_33 ≤ 7 → 0 ≤ v2_33 ∧ v2_33 ≤ 1000 → 0 ≤ v3_33 ∧ v3_33 ≤ 95 → (I 0 72 + 2 ≤ I40 0 72) → (I40 0 71 = 3 ∨ I40 0 71 = 2) → (I40 0 71 = 5 ∨ I40 0 73 ≤ I40 0 69) → (I40 0 72 ≤ I40 0 69) → (I40 0 71 = 0 ∨ (I40 0 72 < I40 0 73 ∧ I40 0 72 < I40 0 69)) → (I40 0 71 = 3 → 2 ≤ I40 0 73 - I40 0 72 ∧ I40 0 73 - I40 0 72 ≤ 14) → (I40 0 72 ≤ I40 0 73) → (I40 0 69 = I 0 69) → (I 0 73 ≤ I40 0 73) → (I 0 72 ≤ I40 0 72) → (I40 0 6 = I 0 6) → (I40 0 59 - I40 0 72 ≤ I 0 59 - I 0 72) → gv_X (gr_E ws0 tb 12 (yX13_lin, cX13_lin, 7, (some .boolean)) kX13_lin) (gv_Q cX13_lin (some .boolean) (gr_sh ++ ext) (fun r h' => (∃ (I' : gr_I) (J' : gr_J), h' = gr_h I' J' ∧ gr_Inv I' ∧ gr_fr [59, 71, 72, 73, 74, 75, 76, 77, 101, 106, 118, 119, 120] [19, 41, 42, 43, 44, 45, 46, 47, 48, 49, 50, 51, 57, 68, 69, 70, 71, 72, 73, 74] I I' ∧ gr_fj [59, 71, 72, 73, 74, 75, 76, 77, 101, 106, 118, 119, 120] [19, 41, 42, 43, 44, 45, 46, 47, 48, 49, 50, 51, 57, 68, 69, 70, 71, 72, 73, 74] J J' ∧ gr_LN B I' ∧ (∃ z : Int, r = some (.inl z) ∧ 0 ≤ z ∧ z ≤ 1 ∧ (I' 0 71 = 5 ∨ I' 0 73 ≤ I' 0 69) ∧ (I' 0 72 ≤ I' 0 69) ∧ (I' 0 71 = 0 ∨ (I' 0 72 < I' 0 73 ∧ I' 0 72 < I' 0 69)) ∧ (I' 0 71 = 3 → 2 ≤ I' 0 73 - I' 0 72 ∧ I' 0 73 - I' 0 72 ≤ 14) ∧ (I' 0 72 ≤ I' 0 73) ∧ (I' 0 69 = I 0 69) ∧ (I 0 73 ≤ I' 0 73) ∧ (I 0 72 ≤ I' 0 72) ∧ (I' 0 59 - I' 0 72 ≤ I 0 59 - I 0 72))))) (141, [(0, .inr (.inr (some 0))), (1, .inl v1_33), (2, .inl v2_33), (3, .inl v3_33)], [], gr_sh ++ ext, gr_h I40 J41) := by
            intro hv1_33_49 hv2_33_49 hv3_33_49 e0_49 e1_49 e2_49 e3_49 e4_49 e5_49 e6_49 e7_49 e8_49 e9_49 e10_49 e11_49
            have f50 := (show 0 ≤ I40 0 71 ∧ I40 0 71 ≤ 5 from (hI40 0 71).1)
            have f51 := (show 0 ≤ I40 0 72 ∧ I40 0 72 ≤ 1000 from (hI40 0 72).1)
            have f52 := (show 0 ≤ I40 0 73 ∧ I40 0 73 ≤ 1001 from (hI40 0 73).1)
            have f53 := (show 0 ≤ I40 0 69 ∧ I40 0 69 ≤ 1000 from (hI40 0 69).1)
            have f54 := (show (-1) ≤ I40 0 6 ∧ I40 0 6 ≤ 7 from (hI40 0 6).1)
            have f55 := (show 0 ≤ I40 0 59 ∧ I40 0 59 ≤ 2000 from (hI40 0 59).1)
            refine gv_run 2 true hD (pc' := 143) (lv' := [(0, .inr (.inr (some 0))), (1, .inl v1_33), (2, .inl v2_33), (3, .inl v3_33)]) (st' := [.inl v3_33, .inr (.inr (some 0))]) (h' := gr_h I40 J41) (C := ((True ∧ True) ∧ True)) rfl ⟨⟨trivial, trivial⟩, trivial⟩ ?_
            obtain ⟨r56, h56, E56, P56⟩ := r_item (ws0 := ws0) (tb := tb) hws htb ext I40 J41 hI40 v3_33 ⟨by omega, by omega⟩ (by omega) (by omega) (by omega) (by omega) (by omega) (by omega) (by omega) (by omega)
            obtain ⟨I57, J58, rfl, hI57, g56, k56, ⟨z56, rfl, q56⟩⟩ := P56
            have FI57 := gr_frt FI40 g56 rfl rfl
            have FJ58 := gr_fjt FJ41 k56 rfl rfl
            have t59 := g56 0 69 rfl
            have t60 := g56 0 6 rfl
            have t61 := g56 19 (Int.toNat v1_33) rfl
            have f62 := (show 0 ≤ I57 0 71 ∧ I57 0 71 ≤ 5 from (hI57 0 71).1)
            have f63 := (show 0 ≤ I57 0 72 ∧ I57 0 72 ≤ 1000 from (hI57 0 72).1)
            have f64 := (show 0 ≤ I57 0 73 ∧ I57 0 73 ≤ 1001 from (hI57 0 73).1)
            have f65 := (show 0 ≤ I57 0 69 ∧ I57 0 69 ≤ 1000 from (hI57 0 69).1)
            have f66 := (show (-1) ≤ I57 0 6 ∧ I57 0 6 ≤ 7 from (hI57 0 6).1)
            have f67 := (show 0 ≤ I57 0 59 ∧ I57 0 59 ≤ 2000 from (hI57 0 59).1)
            have KLN_I57 := gr_LN_fr KLN_I40 (fun k => g56 19 k rfl) (by omega) (by omega)
            have t68 := KLN_I57 (Int.toNat v1_33) (by omega)
            refine gv_callV hD rfl (As := [.inl v3_33]) (st := []) rfl (by decide) rfl rfl (gr_lV hws rfl) (Nat.le_of_ble_eq_true rfl) (gz_Ev_mono (d := 12) (by decide) E56) ?_
            show gv_X _ _ (146, [(0, .inr (.inr (some 0))), (1, .inl v1_33), (2, .inl v2_33), (3, .inl v3_33)], [.inl z56], gr_sh ++ ext, gr_h I57 J58)
            refine gv_if_ne (t := 125) hD rfl rfl ⟨by omega, by omega⟩ (fun c69 => ?_) (fun c69 => ?_)
            · exact ih125 I57 J58 (by omega) hI57 FI57 FJ58 KLN_I57 ⟨by omega, by omega⟩ ⟨by omega, by omega⟩ ⟨by omega, by omega⟩ (by omega) (by omega) (by omega) (by omega) (by omega) (by omega) (by omega) (by omega) (by omega) (by omega) (by omega)
            · refine gv_run 1 true hD (pc' := 150) (lv' := [(0, .inr (.inr (some 0))), (1, .inl v1_33), (2, .inl v2_33), (3, .inl v3_33)]) (st' := [.inl 0]) (h' := gr_h I57 J58) (C := (True ∧ True)) rfl ⟨trivial, trivial⟩ ?_
              exact gv_zret hD rfl (by omega) ⟨I57, J58, rfl, hI57, FI57, FJ58, KLN_I57, ⟨_, rfl, by omega, by omega, by omega, by omega, by omega, by omega, by omega, by omega, by omega, by omega, by omega⟩⟩
          have L151 : ∀ (n : Nat) (I70 : gr_I) (J71 : gr_J) , (1001 - I70 0 72).toNat < n → gr_Inv I70 → gr_fr [59, 71, 72, 73, 74, 75, 76, 77, 101, 106, 118, 119, 120] [19, 41, 42, 43, 44, 45, 46, 47, 48, 49, 50, 51, 57, 68, 69, 70, 71, 72, 73, 74] I I70 → gr_fj [59, 71, 72, 73, 74, 75, 76, 77, 101, 106, 118, 119, 120] [19, 41, 42, 43, 44, 45, 46, 47, 48, 49, 50, 51, 57, 68, 69, 70, 71, 72, 73, 74] J J71 → gr_LN B I70 → 0 ≤ v1_33 ∧ v1_33 ≤ 7 → 0 ≤ v2_33 ∧ v2_33 ≤ 1000 → 0 ≤ v3_33 ∧ v3_33 ≤ 95 → (I 0 72 + 3 ≤ I70 0 72) → (I70 0 71 = 5 ∨ I70 0 73 ≤ I70 0 69) → (I70 0 72 ≤ I70 0 69) → (I70 0 71 = 0 ∨ (I70 0 72 < I70 0 73 ∧ I70 0 72 < I70 0 69)) → (I70 0 71 = 3 → 2 ≤ I70 0 73 - I70 0 72 ∧ I70 0 73 - I70 0 72 ≤ 14) → (I70 0 72 ≤ I70 0 73) → (I70 0 69 = I 0 69) → (I 0 73 ≤ I70 0 73) → (I 0 72 ≤ I70 0 72) → (I70 0 6 = I 0 6) → (I70 0 59 - I70 0 72 ≤ I 0 59 - I 0 72) → gv_X (gr_E ws0 tb 12 (yX13_lin, cX13_lin, 7, (some .boolean)) kX13_lin) (gv_Q cX13_lin (some .boolean) (gr_sh ++ ext) (fun r h' => (∃ (I' : gr_I) (J' : gr_J), h' = gr_h I' J' ∧ gr_Inv I' ∧ gr_fr [59, 71, 72, 73, 74, 75, 76, 77, 101, 106, 118, 119, 120] [19, 41, 42, 43, 44, 45, 46, 47, 48, 49, 50, 51, 57, 68, 69, 70, 71, 72, 73, 74] I I' ∧ gr_fj [59, 71, 72, 73, 74, 75, 76, 77, 101, 106, 118, 119, 120] [19, 41, 42, 43, 44, 45, 46, 47, 48, 49, 50, 51, 57, 68, 69, 70, 71, 72, 73, 74] J J' ∧ gr_LN B I' ∧ (∃ z : Int, r = some (.inl z) ∧ 0 ≤ z ∧ z ≤ 1 ∧ (I' 0 71 = 5 ∨ I' 0 73 ≤ I' 0 69) ∧ (I' 0 72 ≤ I' 0 69) ∧ (I' 0 71 = 0 ∨ (I' 0 72 < I' 0 73 ∧ I' 0 72 < I' 0 69)) ∧ (I' 0 71 = 3 → 2 ≤ I' 0 73 - I' 0 72 ∧ I' 0 73 - I' 0 72 ≤ 14) ∧ (I' 0 72 ≤ I' 0 73) ∧ (I' 0 69 = I 0 69) ∧ (I 0 73 ≤ I' 0 73) ∧ (I 0 72 ≤ I' 0 72) ∧ (I' 0 59 - I' 0 72 ≤ I 0 59 - I 0 72))))) (151, [(0, .inr (.inr (some 0))), (1, .inl v1_33), (2, .inl v2_33), (3, .inl v3_33)], [], gr_sh ++ ext, gr_h I70 J71) := by
            intro n
            induction n with
            | zero => intro I70 J71 hn; omega
            | succ n ih151 =>
              intro I70 J71 hn hI70 FI70 FJ71 KLN_I70 hv1_33_72 hv2_33_72 hv3_33_72 e0_72 e1_72 e2_72 e3_72 e4_72 e5_72 e6_72 e7_72 e8_72 e9_72 e10_72
              have f73 := (show 0 ≤ I70 0 71 ∧ I70 0 71 ≤ 5 from (hI70 0 71).1)
              have f74 := (show 0 ≤ I70 0 72 ∧ I70 0 72 ≤ 1000 from (hI70 0 72).1)
              have f75 := (show 0 ≤ I70 0 73 ∧ I70 0 73 ≤ 1001 from (hI70 0 73).1)
              have f76 := (show 0 ≤ I70 0 69 ∧ I70 0 69 ≤ 1000 from (hI70 0 69).1)
              have f77 := (show (-1) ≤ I70 0 6 ∧ I70 0 6 ≤ 7 from (hI70 0 6).1)
              have f78 := (show 0 ≤ I70 0 59 ∧ I70 0 59 ≤ 2000 from (hI70 0 59).1)
              have L261 : ∀ (I79 : gr_I) (J80 : gr_J) , gr_Inv I79 → gr_fr [59, 71, 72, 73, 74, 75, 76, 77, 101, 106, 118, 119, 120] [19, 41, 42, 43, 44, 45, 46, 47, 48, 49, 50, 51, 57, 68, 69, 70, 71, 72, 73, 74] I I79 → gr_fj [59, 71, 72, 73, 74, 75, 76, 77, 101, 106, 118, 119, 120] [19, 41, 42, 43, 44, 45, 46, 47, 48, 49, 50, 51, 57, 68, 69, 70, 71, 72, 73, 74] J J80 → gr_LN B I79 → 0 ≤ v1_33 ∧ v1_33 ≤ 7 → 0 ≤ v2_33 ∧ v2_33 ≤ 1000 → 0 ≤ v3_33 ∧ v3_33 ≤ 95 → (I 0 72 + 3 ≤ I79 0 72) → (I79 0 71 = 5 ∨ I79 0 73 ≤ I79 0 69) → (I79 0 72 ≤ I79 0 69) → (I79 0 71 = 0 ∨ (I79 0 72 < I79 0 73 ∧ I79 0 72 < I79 0 69)) → (I79 0 71 = 3 → 2 ≤ I79 0 73 - I79 0 72 ∧ I79 0 73 - I79 0 72 ≤ 14) → (I79 0 72 ≤ I79 0 73) → (I79 0 69 = I 0 69) → (I 0 73 ≤ I79 0 73) → (I 0 72 ≤ I79 0 72) → (I79 0 6 = I 0 6) → (I79 0 59 - I79 0 72 ≤ I 0 59 - I 0 72) → gv_X (gr_E ws0 tb 12 (yX13_lin, cX13_lin, 7, (some .boolean)) kX13_lin) (gv_Q cX13_lin (some .boolean) (gr_sh ++ ext) (fun r h' => (∃ (I' : gr_I) (J' : gr_J), h' = gr_h I' J' ∧ gr_Inv I' ∧ gr_fr [59, 71, 72, 73, 74, 75, 76, 77, 101, 106, 118, 119, 120] [19, 41, 42, 43, 44, 45, 46, 47, 48, 49, 50, 51, 57, 68, 69, 70, 71, 72, 73, 74] I I' ∧ gr_fj [59, 71, 72, 73, 74, 75, 76, 77, 101, 106, 118, 119, 120] [19, 41, 42, 43, 44, 45, 46, 47, 48, 49, 50, 51, 57, 68, 69, 70, 71, 72, 73, 74] J J' ∧ gr_LN B I' ∧ (∃ z : Int, r = some (.inl z) ∧ 0 ≤ z ∧ z ≤ 1 ∧ (I' 0 71 = 5 ∨ I' 0 73 ≤ I' 0 69) ∧ (I' 0 72 ≤ I' 0 69) ∧ (I' 0 71 = 0 ∨ (I' 0 72 < I' 0 73 ∧ I' 0 72 < I' 0 69)) ∧ (I' 0 71 = 3 → 2 ≤ I' 0 73 - I' 0 72 ∧ I' 0 73 - I' 0 72 ≤ 14) ∧ (I' 0 72 ≤ I' 0 73) ∧ (I' 0 69 = I 0 69) ∧ (I 0 73 ≤ I' 0 73) ∧ (I 0 72 ≤ I' 0 72) ∧ (I' 0 59 - I' 0 72 ≤ I 0 59 - I 0 72))))) (261, [(0, .inr (.inr (some 0))), (1, .inl v1_33), (2, .inl v2_33), (3, .inl v3_33)], [], gr_sh ++ ext, gr_h I79 J80) := by
                intro I79 J80 hI79 FI79 FJ80 KLN_I79 hv1_33_81 hv2_33_81 hv3_33_81 e0_81 e1_81 e2_81 e3_81 e4_81 e5_81 e6_81 e7_81 e8_81 e9_81 e10_81
                have f82 := (show 0 ≤ I79 0 71 ∧ I79 0 71 ≤ 5 from (hI79 0 71).1)
                have f83 := (show 0 ≤ I79 0 72 ∧ I79 0 72 ≤ 1000 from (hI79 0 72).1)
                have f84 := (show 0 ≤ I79 0 73 ∧ I79 0 73 ≤ 1001 from (hI79 0 73).1)
                have f85 := (show 0 ≤ I79 0 69 ∧ I79 0 69 ≤ 1000 from (hI79 0 69).1)
                have f86 := (show (-1) ≤ I79 0 6 ∧ I79 0 6 ≤ 7 from (hI79 0 6).1)
                have f87 := (show 0 ≤ I79 0 59 ∧ I79 0 59 ≤ 2000 from (hI79 0 59).1)
                have L264 : ∀ (n : Nat) (v4_88 : Int), (5 - v4_88).toNat < n → 0 ≤ v1_33 ∧ v1_33 ≤ 7 → 0 ≤ v2_33 ∧ v2_33 ≤ 1000 → 0 ≤ v3_33 ∧ v3_33 ≤ 95 → 0 ≤ v4_88 ∧ v4_88 ≤ 4 → (I79 0 71 = 5 ∨ I79 0 73 ≤ I79 0 69) → (I79 0 72 ≤ I79 0 69) → (I79 0 71 = 0 ∨ (I79 0 72 < I79 0 73 ∧ I79 0 72 < I79 0 69)) → (I79 0 71 = 3 → 2 ≤ I79 0 73 - I79 0 72 ∧ I79 0 73 - I79 0 72 ≤ 14) → (I79 0 72 ≤ I79 0 73) → (I79 0 69 = I 0 69) → (I 0 73 ≤ I79 0 73) → (I 0 72 ≤ I79 0 72) → (I79 0 6 = I 0 6) → (I79 0 59 - I79 0 72 ≤ I 0 59 - I 0 72) → gv_X (gr_E ws0 tb 12 (yX13_lin, cX13_lin, 7, (some .boolean)) kX13_lin) (gv_Q cX13_lin (some .boolean) (gr_sh ++ ext) (fun r h' => (∃ (I' : gr_I) (J' : gr_J), h' = gr_h I' J' ∧ gr_Inv I' ∧ gr_fr [59, 71, 72, 73, 74, 75, 76, 77, 101, 106, 118, 119, 120] [19, 41, 42, 43, 44, 45, 46, 47, 48, 49, 50, 51, 57, 68, 69, 70, 71, 72, 73, 74] I I' ∧ gr_fj [59, 71, 72, 73, 74, 75, 76, 77, 101, 106, 118, 119, 120] [19, 41, 42, 43, 44, 45, 46, 47, 48, 49, 50, 51, 57, 68, 69, 70, 71, 72, 73, 74] J J' ∧ gr_LN B I' ∧ (∃ z : Int, r = some (.inl z) ∧ 0 ≤ z ∧ z ≤ 1 ∧ (I' 0 71 = 5 ∨ I' 0 73 ≤ I' 0 69) ∧ (I' 0 72 ≤ I' 0 69) ∧ (I' 0 71 = 0 ∨ (I' 0 72 < I' 0 73 ∧ I' 0 72 < I' 0 69)) ∧ (I' 0 71 = 3 → 2 ≤ I' 0 73 - I' 0 72 ∧ I' 0 73 - I' 0 72 ≤ 14) ∧ (I' 0 72 ≤ I' 0 73) ∧ (I' 0 69 = I 0 69) ∧ (I 0 73 ≤ I' 0 73) ∧ (I 0 72 ≤ I' 0 72) ∧ (I' 0 59 - I' 0 72 ≤ I 0 59 - I 0 72))))) (264, [(0, .inr (.inr (some 0))), (1, .inl v1_33), (2, .inl v2_33), (3, .inl v3_33), (4, .inl v4_88)], [], gr_sh ++ ext, gr_h I79 J80) := by
                  intro n
                  induction n with
                  | zero => intro v4_88 hn; omega
                  | succ n ih264 =>
                    intro v4_88 hn hv1_33_88 hv2_33_88 hv3_33_88 hv4_88 e0_88 e1_88 e2_88 e3_88 e4_88 e5_88 e6_88 e7_88 e8_88 e9_88
                    have f89 := (show 0 ≤ I79 0 71 ∧ I79 0 71 ≤ 5 from (hI79 0 71).1)
                    have f90 := (show 0 ≤ I79 0 72 ∧ I79 0 72 ≤ 1000 from (hI79 0 72).1)
                    have f91 := (show 0 ≤ I79 0 73 ∧ I79 0 73 ≤ 1001 from (hI79 0 73).1)
                    have f92 := (show 0 ≤ I79 0 69 ∧ I79 0 69 ≤ 1000 from (hI79 0 69).1)
                    have f93 := (show (-1) ≤ I79 0 6 ∧ I79 0 6 ≤ 7 from (hI79 0 6).1)
                    have f94 := (show 0 ≤ I79 0 59 ∧ I79 0 59 ≤ 2000 from (hI79 0 59).1)
                    have L305 : ∀ (n : Nat) (v4_95 : Int) (v5_95 : Int), (385 - v5_95).toNat < n → 0 ≤ v1_33 ∧ v1_33 ≤ 7 → 0 ≤ v3_33 ∧ v3_33 ≤ 95 → 0 ≤ v4_95 ∧ v4_95 ≤ 384 → 0 ≤ v5_95 ∧ v5_95 ≤ 384 → (v4_95 ≤ v5_95) → (I79 0 71 = 5 ∨ I79 0 73 ≤ I79 0 69) → (I79 0 72 ≤ I79 0 69) → (I79 0 71 = 0 ∨ (I79 0 72 < I79 0 73 ∧ I79 0 72 < I79 0 69)) → (I79 0 71 = 3 → 2 ≤ I79 0 73 - I79 0 72 ∧ I79 0 73 - I79 0 72 ≤ 14) → (I79 0 72 ≤ I79 0 73) → (I79 0 69 = I 0 69) → (I 0 73 ≤ I79 0 73) → (I 0 72 ≤ I79 0 72) → (I79 0 6 = I 0 6) → (I79 0 59 - I79 0 72 ≤ I 0 59 - I 0 72) → gv_X (gr_E ws0 tb 12 (yX13_lin, cX13_lin, 7, (some .boolean)) kX13_lin) (gv_Q cX13_lin (some .boolean) (gr_sh ++ ext) (fun r h' => (∃ (I' : gr_I) (J' : gr_J), h' = gr_h I' J' ∧ gr_Inv I' ∧ gr_fr [59, 71, 72, 73, 74, 75, 76, 77, 101, 106, 118, 119, 120] [19, 41, 42, 43, 44, 45, 46, 47, 48, 49, 50, 51, 57, 68, 69, 70, 71, 72, 73, 74] I I' ∧ gr_fj [59, 71, 72, 73, 74, 75, 76, 77, 101, 106, 118, 119, 120] [19, 41, 42, 43, 44, 45, 46, 47, 48, 49, 50, 51, 57, 68, 69, 70, 71, 72, 73, 74] J J' ∧ gr_LN B I' ∧ (∃ z : Int, r = some (.inl z) ∧ 0 ≤ z ∧ z ≤ 1 ∧ (I' 0 71 = 5 ∨ I' 0 73 ≤ I' 0 69) ∧ (I' 0 72 ≤ I' 0 69) ∧ (I' 0 71 = 0 ∨ (I' 0 72 < I' 0 73 ∧ I' 0 72 < I' 0 69)) ∧ (I' 0 71 = 3 → 2 ≤ I' 0 73 - I' 0 72 ∧ I' 0 73 - I' 0 72 ≤ 14) ∧ (I' 0 72 ≤ I' 0 73) ∧ (I' 0 69 = I 0 69) ∧ (I 0 73 ≤ I' 0 73) ∧ (I 0 72 ≤ I' 0 72) ∧ (I' 0 59 - I' 0 72 ≤ I 0 59 - I 0 72))))) (305, [(0, .inr (.inr (some 0))), (1, .inl v1_33), (3, .inl v3_33), (4, .inl v4_95), (5, .inl v5_95)], [], gr_sh ++ ext, gr_h I79 J80) := by
                      intro n
                      induction n with
                      | zero => intro v4_95 v5_95 hn; omega
                      | succ n ih305 =>
                        intro v4_95 v5_95 hn hv1_33_95 hv3_33_95 hv4_95 hv5_95 e0_95 e1_95 e2_95 e3_95 e4_95 e5_95 e6_95 e7_95 e8_95 e9_95 e10_95
                        have f96 := (show 0 ≤ I79 0 71 ∧ I79 0 71 ≤ 5 from (hI79 0 71).1)
                        have f97 := (show 0 ≤ I79 0 72 ∧ I79 0 72 ≤ 1000 from (hI79 0 72).1)
                        have f98 := (show 0 ≤ I79 0 73 ∧ I79 0 73 ≤ 1001 from (hI79 0 73).1)
                        have f99 := (show 0 ≤ I79 0 69 ∧ I79 0 69 ≤ 1000 from (hI79 0 69).1)
                        have f100 := (show (-1) ≤ I79 0 6 ∧ I79 0 6 ≤ 7 from (hI79 0 6).1)
                        have f101 := (show 0 ≤ I79 0 59 ∧ I79 0 59 ≤ 2000 from (hI79 0 59).1)
                        have L336 : ∀ (v4_102 : Int), 0 ≤ v1_33 ∧ v1_33 ≤ 7 → 0 ≤ v3_33 ∧ v3_33 ≤ 95 → 0 ≤ v4_102 ∧ v4_102 ≤ 385 → 0 ≤ v5_95 ∧ v5_95 ≤ 383 → (v4_102 ≤ v5_95 + 1) → (I79 0 71 = 5 ∨ I79 0 73 ≤ I79 0 69) → (I79 0 72 ≤ I79 0 69) → (I79 0 71 = 0 ∨ (I79 0 72 < I79 0 73 ∧ I79 0 72 < I79 0 69)) → (I79 0 71 = 3 → 2 ≤ I79 0 73 - I79 0 72 ∧ I79 0 73 - I79 0 72 ≤ 14) → (I79 0 72 ≤ I79 0 73) → (I79 0 69 = I 0 69) → (I 0 73 ≤ I79 0 73) → (I 0 72 ≤ I79 0 72) → (I79 0 6 = I 0 6) → (I79 0 59 - I79 0 72 ≤ I 0 59 - I 0 72) → gv_X (gr_E ws0 tb 12 (yX13_lin, cX13_lin, 7, (some .boolean)) kX13_lin) (gv_Q cX13_lin (some .boolean) (gr_sh ++ ext) (fun r h' => (∃ (I' : gr_I) (J' : gr_J), h' = gr_h I' J' ∧ gr_Inv I' ∧ gr_fr [59, 71, 72, 73, 74, 75, 76, 77, 101, 106, 118, 119, 120] [19, 41, 42, 43, 44, 45, 46, 47, 48, 49, 50, 51, 57, 68, 69, 70, 71, 72, 73, 74] I I' ∧ gr_fj [59, 71, 72, 73, 74, 75, 76, 77, 101, 106, 118, 119, 120] [19, 41, 42, 43, 44, 45, 46, 47, 48, 49, 50, 51, 57, 68, 69, 70, 71, 72, 73, 74] J J' ∧ gr_LN B I' ∧ (∃ z : Int, r = some (.inl z) ∧ 0 ≤ z ∧ z ≤ 1 ∧ (I' 0 71 = 5 ∨ I' 0 73 ≤ I' 0 69) ∧ (I' 0 72 ≤ I' 0 69) ∧ (I' 0 71 = 0 ∨ (I' 0 72 < I' 0 73 ∧ I' 0 72 < I' 0 69)) ∧ (I' 0 71 = 3 → 2 ≤ I' 0 73 - I' 0 72 ∧ I' 0 73 - I' 0 72 ≤ 14) ∧ (I' 0 72 ≤ I' 0 73) ∧ (I' 0 69 = I 0 69) ∧ (I 0 73 ≤ I' 0 73) ∧ (I 0 72 ≤ I' 0 72) ∧ (I' 0 59 - I' 0 72 ≤ I 0 59 - I 0 72))))) (336, [(0, .inr (.inr (some 0))), (1, .inl v1_33), (3, .inl v3_33), (4, .inl v4_102), (5, .inl v5_95)], [], gr_sh ++ ext, gr_h I79 J80) := by
                          intro v4_102 hv1_33_102 hv3_33_102 hv4_102 hv5_95_102 e0_102 e1_102 e2_102 e3_102 e4_102 e5_102 e6_102 e7_102 e8_102 e9_102 e10_102
                          have f103 := (show 0 ≤ I79 0 71 ∧ I79 0 71 ≤ 5 from (hI79 0 71).1)
                          have f104 := (show 0 ≤ I79 0 72 ∧ I79 0 72 ≤ 1000 from (hI79 0 72).1)
                          have f105 := (show 0 ≤ I79 0 73 ∧ I79 0 73 ≤ 1001 from (hI79 0 73).1)
                          have f106 := (show 0 ≤ I79 0 69 ∧ I79 0 69 ≤ 1000 from (hI79 0 69).1)
                          have f107 := (show (-1) ≤ I79 0 6 ∧ I79 0 6 ≤ 7 from (hI79 0 6).1)
                          have f108 := (show 0 ≤ I79 0 59 ∧ I79 0 59 ≤ 2000 from (hI79 0 59).1)
                          refine gv_run 2 true hD (pc' := 305) (lv' := [(5, .inl (v5_95 + 1)), (0, .inr (.inr (some 0))), (1, .inl v1_33), (3, .inl v3_33), (4, .inl v4_102)]) (st' := []) (h' := gr_h I79 J80) (C := ((True ∧ True) ∧ True)) rfl ⟨⟨trivial, trivial⟩, trivial⟩ ?_
                          refine gv_pick [1, 2, 3, 4, 0] rfl ?_
                          exact ih305 v4_102 (v5_95 + 1) (by omega) ⟨by omega, by omega⟩ ⟨by omega, by omega⟩ ⟨by omega, by omega⟩ ⟨by omega, by omega⟩ (by omega) (by omega) (by omega) (by omega) (by omega) (by omega) (by omega) (by omega) (by omega) (by omega) (by omega)
                        have L354 : ∀ (s1_109 : Int), 0 ≤ v1_33 ∧ v1_33 ≤ 7 → 0 ≤ v3_33 ∧ v3_33 ≤ 95 → 0 ≤ s1_109 ∧ s1_109 ≤ 1 → (I 0 72 + 3 ≤ I79 0 72) → (I79 0 71 = 5 ∨ I79 0 73 ≤ I79 0 69) → (I79 0 72 ≤ I79 0 69) → (I79 0 71 = 0 ∨ (I79 0 72 < I79 0 73 ∧ I79 0 72 < I79 0 69)) → (I79 0 71 = 3 → 2 ≤ I79 0 73 - I79 0 72 ∧ I79 0 73 - I79 0 72 ≤ 14) → (I79 0 72 ≤ I79 0 73) → (I79 0 69 = I 0 69) → (I 0 73 ≤ I79 0 73) → (I 0 72 ≤ I79 0 72) → (I79 0 6 = I 0 6) → (I79 0 59 - I79 0 72 ≤ I 0 59 - I 0 72) → gv_X (gr_E ws0 tb 12 (yX13_lin, cX13_lin, 7, (some .boolean)) kX13_lin) (gv_Q cX13_lin (some .boolean) (gr_sh ++ ext) (fun r h' => (∃ (I' : gr_I) (J' : gr_J), h' = gr_h I' J' ∧ gr_Inv I' ∧ gr_fr [59, 71, 72, 73, 74, 75, 76, 77, 101, 106, 118, 119, 120] [19, 41, 42, 43, 44, 45, 46, 47, 48, 49, 50, 51, 57, 68, 69, 70, 71, 72, 73, 74] I I' ∧ gr_fj [59, 71, 72, 73, 74, 75, 76, 77, 101, 106, 118, 119, 120] [19, 41, 42, 43, 44, 45, 46, 47, 48, 49, 50, 51, 57, 68, 69, 70, 71, 72, 73, 74] J J' ∧ gr_LN B I' ∧ (∃ z : Int, r = some (.inl z) ∧ 0 ≤ z ∧ z ≤ 1 ∧ (I' 0 71 = 5 ∨ I' 0 73 ≤ I' 0 69) ∧ (I' 0 72 ≤ I' 0 69) ∧ (I' 0 71 = 0 ∨ (I' 0 72 < I' 0 73 ∧ I' 0 72 < I' 0 69)) ∧ (I' 0 71 = 3 → 2 ≤ I' 0 73 - I' 0 72 ∧ I' 0 73 - I' 0 72 ≤ 14) ∧ (I' 0 72 ≤ I' 0 73) ∧ (I' 0 69 = I 0 69) ∧ (I 0 73 ≤ I' 0 73) ∧ (I 0 72 ≤ I' 0 72) ∧ (I' 0 59 - I' 0 72 ≤ I 0 59 - I 0 72))))) (354, [(0, .inr (.inr (some 0))), (1, .inl v1_33), (3, .inl v3_33)], [.inl s1_109, .inr (.inr (some 0))], gr_sh ++ ext, gr_h I79 J80) := by
                          intro s1_109 hv1_33_109 hv3_33_109 hs1_109 e0_109 e1_109 e2_109 e3_109 e4_109 e5_109 e6_109 e7_109 e8_109 e9_109 e10_109
                          have f110 := (show 0 ≤ I79 0 71 ∧ I79 0 71 ≤ 5 from (hI79 0 71).1)
                          have f111 := (show 0 ≤ I79 0 72 ∧ I79 0 72 ≤ 1000 from (hI79 0 72).1)
                          have f112 := (show 0 ≤ I79 0 73 ∧ I79 0 73 ≤ 1001 from (hI79 0 73).1)
                          have f113 := (show 0 ≤ I79 0 69 ∧ I79 0 69 ≤ 1000 from (hI79 0 69).1)
                          have f114 := (show (-1) ≤ I79 0 6 ∧ I79 0 6 ≤ 7 from (hI79 0 6).1)
                          have f115 := (show 0 ≤ I79 0 59 ∧ I79 0 59 ≤ 2000 from (hI79 0 59).1)
                          have L425 : ∀ (n : Nat) (I116 : gr_I) (J117 : gr_J) (v5_118 : Int) (v6_118 : Int), (7 - v6_118).toNat < n → gr_Inv I116 → gr_fr [59, 71, 72, 73, 74, 75, 76, 77, 101, 106, 118, 119, 120] [19, 41, 42, 43, 44, 45, 46, 47, 48, 49, 50, 51, 57, 68, 69, 70, 71, 72, 73, 74] I I116 → gr_fj [59, 71, 72, 73, 74, 75, 76, 77, 101, 106, 118, 119, 120] [19, 41, 42, 43, 44, 45, 46, 47, 48, 49, 50, 51, 57, 68, 69, 70, 71, 72, 73, 74] J J117 → gr_LN B I116 → 0 ≤ v5_118 ∧ v5_118 ≤ 3071 → 0 ≤ v6_118 ∧ v6_118 ≤ 6 → (I116 0 71 = 5 ∨ I116 0 73 ≤ I116 0 69) → (I116 0 72 ≤ I116 0 69) → (I116 0 71 = 0 ∨ (I116 0 72 < I116 0 73 ∧ I116 0 72 < I116 0 69)) → (I116 0 71 = 3 → 2 ≤ I116 0 73 - I116 0 72 ∧ I116 0 73 - I116 0 72 ≤ 14) → (I116 0 72 ≤ I116 0 73) → (I116 0 69 = I 0 69) → (I 0 73 ≤ I116 0 73) → (I 0 72 ≤ I116 0 72) → (I116 0 6 = I 0 6) → (I116 0 59 - I116 0 72 ≤ I 0 59 - I 0 72) → gv_X (gr_E ws0 tb 12 (yX13_lin, cX13_lin, 7, (some .boolean)) kX13_lin) (gv_Q cX13_lin (some .boolean) (gr_sh ++ ext) (fun r h' => (∃ (I' : gr_I) (J' : gr_J), h' = gr_h I' J' ∧ gr_Inv I' ∧ gr_fr [59, 71, 72, 73, 74, 75, 76, 77, 101, 106, 118, 119, 120] [19, 41, 42, 43, 44, 45, 46, 47, 48, 49, 50, 51, 57, 68, 69, 70, 71, 72, 73, 74] I I' ∧ gr_fj [59, 71, 72, 73, 74, 75, 76, 77, 101, 106, 118, 119, 120] [19, 41, 42, 43, 44, 45, 46, 47, 48, 49, 50, 51, 57, 68, 69, 70, 71, 72, 73, 74] J J' ∧ gr_LN B I' ∧ (∃ z : Int, r = some (.inl z) ∧ 0 ≤ z ∧ z ≤ 1 ∧ (I' 0 71 = 5 ∨ I' 0 73 ≤ I' 0 69) ∧ (I' 0 72 ≤ I' 0 69) ∧ (I' 0 71 = 0 ∨ (I' 0 72 < I' 0 73 ∧ I' 0 72 < I' 0 69)) ∧ (I' 0 71 = 3 → 2 ≤ I' 0 73 - I' 0 72 ∧ I' 0 73 - I' 0 72 ≤ 14) ∧ (I' 0 72 ≤ I' 0 73) ∧ (I' 0 69 = I 0 69) ∧ (I 0 73 ≤ I' 0 73) ∧ (I 0 72 ≤ I' 0 72) ∧ (I' 0 59 - I' 0 72 ≤ I 0 59 - I 0 72))))) (425, [(0, .inr (.inr (some 0))), (5, .inl v5_118), (6, .inl v6_118)], [], gr_sh ++ ext, gr_h I116 J117) := by
                            intro n
                            induction n with
                            | zero => intro I116 J117 v5_118 v6_118 hn; omega
                            | succ n ih425 =>
                              intro I116 J117 v5_118 v6_118 hn hI116 FI116 FJ117 KLN_I116 hv5_118 hv6_118 e0_118 e1_118 e2_118 e3_118 e4_118 e5_118 e6_118 e7_118 e8_118 e9_118
                              have f119 := (show 0 ≤ I116 0 71 ∧ I116 0 71 ≤ 5 from (hI116 0 71).1)
                              have f120 := (show 0 ≤ I116 0 72 ∧ I116 0 72 ≤ 1000 from (hI116 0 72).1)
                              have f121 := (show 0 ≤ I116 0 73 ∧ I116 0 73 ≤ 1001 from (hI116 0 73).1)
                              have f122 := (show 0 ≤ I116 0 69 ∧ I116 0 69 ≤ 1000 from (hI116 0 69).1)
                              have f123 := (show (-1) ≤ I116 0 6 ∧ I116 0 6 ≤ 7 from (hI116 0 6).1)
                              have f124 := (show 0 ≤ I116 0 59 ∧ I116 0 59 ≤ 2000 from (hI116 0 59).1)
                              have L483 : ∀ (n : Nat) (I125 : gr_I) (J126 : gr_J) (v6_127 : Int), (7 - v6_127).toNat < n → gr_Inv I125 → gr_fr [59, 71, 72, 73, 74, 75, 76, 77, 101, 106, 118, 119, 120] [19, 41, 42, 43, 44, 45, 46, 47, 48, 49, 50, 51, 57, 68, 69, 70, 71, 72, 73, 74] I I125 → gr_fj [59, 71, 72, 73, 74, 75, 76, 77, 101, 106, 118, 119, 120] [19, 41, 42, 43, 44, 45, 46, 47, 48, 49, 50, 51, 57, 68, 69, 70, 71, 72, 73, 74] J J126 → gr_LN B I125 → 0 ≤ v5_118 ∧ v5_118 ≤ 3071 → 0 ≤ v6_127 ∧ v6_127 ≤ 6 → (I125 0 71 = 5 ∨ I125 0 73 ≤ I125 0 69) → (I125 0 72 ≤ I125 0 69) → (I125 0 71 = 0 ∨ (I125 0 72 < I125 0 73 ∧ I125 0 72 < I125 0 69)) → (I125 0 71 = 3 → 2 ≤ I125 0 73 - I125 0 72 ∧ I125 0 73 - I125 0 72 ≤ 14) → (I125 0 72 ≤ I125 0 73) → (I125 0 69 = I 0 69) → (I 0 73 ≤ I125 0 73) → (I 0 72 ≤ I125 0 72) → (I125 0 6 = I 0 6) → (I125 0 59 - I125 0 72 ≤ I 0 59 - I 0 72) → gv_X (gr_E ws0 tb 12 (yX13_lin, cX13_lin, 7, (some .boolean)) kX13_lin) (gv_Q cX13_lin (some .boolean) (gr_sh ++ ext) (fun r h' => (∃ (I' : gr_I) (J' : gr_J), h' = gr_h I' J' ∧ gr_Inv I' ∧ gr_fr [59, 71, 72, 73, 74, 75, 76, 77, 101, 106, 118, 119, 120] [19, 41, 42, 43, 44, 45, 46, 47, 48, 49, 50, 51, 57, 68, 69, 70, 71, 72, 73, 74] I I' ∧ gr_fj [59, 71, 72, 73, 74, 75, 76, 77, 101, 106, 118, 119, 120] [19, 41, 42, 43, 44, 45, 46, 47, 48, 49, 50, 51, 57, 68, 69, 70, 71, 72, 73, 74] J J' ∧ gr_LN B I' ∧ (∃ z : Int, r = some (.inl z) ∧ 0 ≤ z ∧ z ≤ 1 ∧ (I' 0 71 = 5 ∨ I' 0 73 ≤ I' 0 69) ∧ (I' 0 72 ≤ I' 0 69) ∧ (I' 0 71 = 0 ∨ (I' 0 72 < I' 0 73 ∧ I' 0 72 < I' 0 69)) ∧ (I' 0 71 = 3 → 2 ≤ I' 0 73 - I' 0 72 ∧ I' 0 73 - I' 0 72 ≤ 14) ∧ (I' 0 72 ≤ I' 0 73) ∧ (I' 0 69 = I 0 69) ∧ (I 0 73 ≤ I' 0 73) ∧ (I 0 72 ≤ I' 0 72) ∧ (I' 0 59 - I' 0 72 ≤ I 0 59 - I 0 72))))) (483, [(0, .inr (.inr (some 0))), (5, .inl v5_118), (6, .inl v6_127)], [], gr_sh ++ ext, gr_h I125 J126) := by
                                intro n
                                induction n with
                                | zero => intro I125 J126 v6_127 hn; omega
                                | succ n ih483 =>
                                  intro I125 J126 v6_127 hn hI125 FI125 FJ126 KLN_I125 hv5_118_127 hv6_127 e0_127 e1_127 e2_127 e3_127 e4_127 e5_127 e6_127 e7_127 e8_127 e9_127
                                  have f128 := (show 0 ≤ I125 0 71 ∧ I125 0 71 ≤ 5 from (hI125 0 71).1)
                                  have f129 := (show 0 ≤ I125 0 72 ∧ I125 0 72 ≤ 1000 from (hI125 0 72).1)
                                  have f130 := (show 0 ≤ I125 0 73 ∧ I125 0 73 ≤ 1001 from (hI125 0 73).1)
                                  have f131 := (show 0 ≤ I125 0 69 ∧ I125 0 69 ≤ 1000 from (hI125 0 69).1)
                                  have f132 := (show (-1) ≤ I125 0 6 ∧ I125 0 6 ≤ 7 from (hI125 0 6).1)
                                  have f133 := (show 0 ≤ I125 0 59 ∧ I125 0 59 ≤ 2000 from (hI125 0 59).1)
                                  have f134 := (show 0 ≤ I125 0 119 ∧ I125 0 119 ≤ 6 from (hI125 0 119).1)
                                  refine gv_run 3 true hD (pc' := 489) (lv' := [(0, .inr (.inr (some 0))), (5, .inl v5_118), (6, .inl v6_127)]) (st' := [.inl (I125 0 119), .inl v6_127]) (h' := gr_h I125 J126) (C := (((True ∧ True) ∧ True) ∧ True)) rfl ⟨⟨⟨trivial, trivial⟩, trivial⟩, trivial⟩ ?_
                                  refine gv_icmp_ge (t := 578) hD rfl rfl ⟨⟨by omega, by omega⟩, ⟨by omega, by omega⟩⟩ (fun c135 => ?_) (fun c135 => ?_)
                                  · refine gv_run 1 true hD (pc' := 579) (lv' := [(0, .inr (.inr (some 0))), (5, .inl v5_118), (6, .inl v6_127)]) (st' := [.inl 1]) (h' := gr_h I125 J126) (C := (True ∧ True)) rfl ⟨trivial, trivial⟩ ?_
                                    exact gv_zret hD rfl (by omega) ⟨I125, J126, rfl, hI125, FI125, FJ126, KLN_I125, ⟨_, rfl, by omega, by omega, by omega, by omega, by omega, by omega, by omega, by omega, by omega, by omega, by omega⟩⟩
                                  · refine gv_run 7 true hD (pc' := 504) (lv' := [(0, .inr (.inr (some 0))), (5, .inl v5_118), (6, .inl v6_127)]) (st' := [.inl ((6 * v5_118) + v6_127), .inr (.inr (some 46))]) (h' := gr_h I125 J126) (C := (((((((True ∧ True) ∧ True) ∧ True) ∧ True) ∧ True) ∧ True) ∧ True)) rfl ⟨⟨⟨⟨⟨⟨⟨trivial, trivial⟩, trivial⟩, trivial⟩, trivial⟩, trivial⟩, trivial⟩, trivial⟩ ?_
                                    have f136 := (show 0 ≤ I125 70 (Int.toNat v6_127) ∧ I125 70 (Int.toNat v6_127) ≤ 2 from (hI125 70 (Int.toNat v6_127)).1)
                                    refine gv_run 4 true hD (pc' := 511) (lv' := [(0, .inr (.inr (some 0))), (5, .inl v5_118), (6, .inl v6_127)]) (st' := [.inl (I125 70 (Int.toNat v6_127)), .inl ((6 * v5_118) + v6_127), .inr (.inr (some 46))]) (h' := gr_h I125 J126) (C := ((((True ∧ True) ∧ True) ∧ True) ∧ (0 ≤ v6_127 ∧ v6_127 < ((6 : Nat) : Int)))) rfl ⟨⟨⟨⟨trivial, trivial⟩, trivial⟩, trivial⟩, ⟨by omega, by omega⟩⟩ ?_
                                    refine gv_run 1 true hD (pc' := 512) (lv' := [(0, .inr (.inr (some 0))), (5, .inl v5_118), (6, .inl v6_127)]) (st' := []) (h' := gz_up (gr_h I125 J126) 46 (Int.toNat (((6 * v5_118) + v6_127))) (.inl ((I125 70 (Int.toNat v6_127))))) (C := (True ∧ (0 ≤ (((6 * v5_118) + v6_127)) ∧ (((6 * v5_118) + v6_127)) < ((18432 : Nat) : Int)))) rfl ⟨trivial, ⟨by omega, by omega⟩⟩ ?_
                                    refine gr_st hI125 FI125 rfl rfl ⟨⟨by show 0 ≤ _; omega, by show _ ≤ 2; omega⟩, trivial⟩ (fun I137 hI137 FI137 q138 p138 => ?_)
                                    have t139 := p138 0 71 (fun q => absurd q.1 (by decide))
                                    have t140 := p138 0 72 (fun q => absurd q.1 (by decide))
                                    have t141 := p138 0 73 (fun q => absurd q.1 (by decide))
                                    have t142 := p138 0 69 (fun q => absurd q.1 (by decide))
                                    have t143 := p138 0 6 (fun q => absurd q.1 (by decide))
                                    have t144 := p138 0 59 (fun q => absurd q.1 (by decide))
                                    have f145 := (show 0 ≤ I137 0 71 ∧ I137 0 71 ≤ 5 from (hI137 0 71).1)
                                    have f146 := (show 0 ≤ I137 0 72 ∧ I137 0 72 ≤ 1000 from (hI137 0 72).1)
                                    have f147 := (show 0 ≤ I137 0 73 ∧ I137 0 73 ≤ 1001 from (hI137 0 73).1)
                                    have f148 := (show 0 ≤ I137 0 69 ∧ I137 0 69 ≤ 1000 from (hI137 0 69).1)
                                    have f149 := (show (-1) ≤ I137 0 6 ∧ I137 0 6 ≤ 7 from (hI137 0 6).1)
                                    have f150 := (show 0 ≤ I137 0 59 ∧ I137 0 59 ≤ 2000 from (hI137 0 59).1)
                                    have KLN_I137 := gr_LN_fr KLN_I125 (fun k => p138 19 k (fun q => absurd q.1 (by decide))) (by omega) (by omega)
                                    refine gv_run 7 true hD (pc' := 524) (lv' := [(0, .inr (.inr (some 0))), (5, .inl v5_118), (6, .inl v6_127)]) (st' := [.inl ((6 * v5_118) + v6_127), .inr (.inr (some 47))]) (h' := gr_h I137 J126) (C := (((((((True ∧ True) ∧ True) ∧ True) ∧ True) ∧ True) ∧ True) ∧ True)) rfl ⟨⟨⟨⟨⟨⟨⟨trivial, trivial⟩, trivial⟩, trivial⟩, trivial⟩, trivial⟩, trivial⟩, trivial⟩ ?_
                                    have f151 := (show 0 ≤ I137 71 (Int.toNat v6_127) ∧ I137 71 (Int.toNat v6_127) ≤ 6 from (hI137 71 (Int.toNat v6_127)).1)
                                    refine gv_run 4 true hD (pc' := 531) (lv' := [(0, .inr (.inr (some 0))), (5, .inl v5_118), (6, .inl v6_127)]) (st' := [.inl (I137 71 (Int.toNat v6_127)), .inl ((6 * v5_118) + v6_127), .inr (.inr (some 47))]) (h' := gr_h I137 J126) (C := ((((True ∧ True) ∧ True) ∧ True) ∧ (0 ≤ v6_127 ∧ v6_127 < ((6 : Nat) : Int)))) rfl ⟨⟨⟨⟨trivial, trivial⟩, trivial⟩, trivial⟩, ⟨by omega, by omega⟩⟩ ?_
                                    refine gv_run 1 true hD (pc' := 532) (lv' := [(0, .inr (.inr (some 0))), (5, .inl v5_118), (6, .inl v6_127)]) (st' := []) (h' := gz_up (gr_h I137 J126) 47 (Int.toNat (((6 * v5_118) + v6_127))) (.inl ((I137 71 (Int.toNat v6_127))))) (C := (True ∧ (0 ≤ (((6 * v5_118) + v6_127)) ∧ (((6 * v5_118) + v6_127)) < ((18432 : Nat) : Int)))) rfl ⟨trivial, ⟨by omega, by omega⟩⟩ ?_
                                    refine gr_st hI137 FI137 rfl rfl ⟨⟨by show 0 ≤ _; omega, by show _ ≤ 6; omega⟩, trivial⟩ (fun I152 hI152 FI152 q153 p153 => ?_)
                                    have t154 := p153 0 71 (fun q => absurd q.1 (by decide))
                                    have t155 := p153 0 72 (fun q => absurd q.1 (by decide))
                                    have t156 := p153 0 73 (fun q => absurd q.1 (by decide))
                                    have t157 := p153 0 69 (fun q => absurd q.1 (by decide))
                                    have t158 := p153 0 6 (fun q => absurd q.1 (by decide))
                                    have t159 := p153 0 59 (fun q => absurd q.1 (by decide))
                                    have f160 := (show 0 ≤ I152 0 71 ∧ I152 0 71 ≤ 5 from (hI152 0 71).1)
                                    have f161 := (show 0 ≤ I152 0 72 ∧ I152 0 72 ≤ 1000 from (hI152 0 72).1)
                                    have f162 := (show 0 ≤ I152 0 73 ∧ I152 0 73 ≤ 1001 from (hI152 0 73).1)
                                    have f163 := (show 0 ≤ I152 0 69 ∧ I152 0 69 ≤ 1000 from (hI152 0 69).1)
                                    have f164 := (show (-1) ≤ I152 0 6 ∧ I152 0 6 ≤ 7 from (hI152 0 6).1)
                                    have f165 := (show 0 ≤ I152 0 59 ∧ I152 0 59 ≤ 2000 from (hI152 0 59).1)
                                    have KLN_I152 := gr_LN_fr KLN_I137 (fun k => p153 19 k (fun q => absurd q.1 (by decide))) (by omega) (by omega)
                                    refine gv_run 7 true hD (pc' := 544) (lv' := [(0, .inr (.inr (some 0))), (5, .inl v5_118), (6, .inl v6_127)]) (st' := [.inl ((6 * v5_118) + v6_127), .inr (.inr (some 48))]) (h' := gr_h I152 J126) (C := (((((((True ∧ True) ∧ True) ∧ True) ∧ True) ∧ True) ∧ True) ∧ True)) rfl ⟨⟨⟨⟨⟨⟨⟨trivial, trivial⟩, trivial⟩, trivial⟩, trivial⟩, trivial⟩, trivial⟩, trivial⟩ ?_
                                    have f166 := (show 0 ≤ I152 72 (Int.toNat v6_127) ∧ I152 72 (Int.toNat v6_127) ≤ 3 from (hI152 72 (Int.toNat v6_127)).1)
                                    refine gv_run 4 true hD (pc' := 551) (lv' := [(0, .inr (.inr (some 0))), (5, .inl v5_118), (6, .inl v6_127)]) (st' := [.inl (I152 72 (Int.toNat v6_127)), .inl ((6 * v5_118) + v6_127), .inr (.inr (some 48))]) (h' := gr_h I152 J126) (C := ((((True ∧ True) ∧ True) ∧ True) ∧ (0 ≤ v6_127 ∧ v6_127 < ((6 : Nat) : Int)))) rfl ⟨⟨⟨⟨trivial, trivial⟩, trivial⟩, trivial⟩, ⟨by omega, by omega⟩⟩ ?_
                                    refine gv_run 1 true hD (pc' := 552) (lv' := [(0, .inr (.inr (some 0))), (5, .inl v5_118), (6, .inl v6_127)]) (st' := []) (h' := gz_up (gr_h I152 J126) 48 (Int.toNat (((6 * v5_118) + v6_127))) (.inl ((I152 72 (Int.toNat v6_127))))) (C := (True ∧ (0 ≤ (((6 * v5_118) + v6_127)) ∧ (((6 * v5_118) + v6_127)) < ((18432 : Nat) : Int)))) rfl ⟨trivial, ⟨by omega, by omega⟩⟩ ?_
                                    refine gr_st hI152 FI152 rfl rfl ⟨⟨by show 0 ≤ _; omega, by show _ ≤ 3; omega⟩, trivial⟩ (fun I167 hI167 FI167 q168 p168 => ?_)
                                    have t169 := p168 0 71 (fun q => absurd q.1 (by decide))
                                    have t170 := p168 0 72 (fun q => absurd q.1 (by decide))
                                    have t171 := p168 0 73 (fun q => absurd q.1 (by decide))
                                    have t172 := p168 0 69 (fun q => absurd q.1 (by decide))
                                    have t173 := p168 0 6 (fun q => absurd q.1 (by decide))
                                    have t174 := p168 0 59 (fun q => absurd q.1 (by decide))
                                    have f175 := (show 0 ≤ I167 0 71 ∧ I167 0 71 ≤ 5 from (hI167 0 71).1)
                                    have f176 := (show 0 ≤ I167 0 72 ∧ I167 0 72 ≤ 1000 from (hI167 0 72).1)
                                    have f177 := (show 0 ≤ I167 0 73 ∧ I167 0 73 ≤ 1001 from (hI167 0 73).1)
                                    have f178 := (show 0 ≤ I167 0 69 ∧ I167 0 69 ≤ 1000 from (hI167 0 69).1)
                                    have f179 := (show (-1) ≤ I167 0 6 ∧ I167 0 6 ≤ 7 from (hI167 0 6).1)
                                    have f180 := (show 0 ≤ I167 0 59 ∧ I167 0 59 ≤ 2000 from (hI167 0 59).1)
                                    have KLN_I167 := gr_LN_fr KLN_I152 (fun k => p168 19 k (fun q => absurd q.1 (by decide))) (by omega) (by omega)
                                    refine gv_run 7 true hD (pc' := 564) (lv' := [(0, .inr (.inr (some 0))), (5, .inl v5_118), (6, .inl v6_127)]) (st' := [.inl ((6 * v5_118) + v6_127), .inr (.inr (some 49))]) (h' := gr_h I167 J126) (C := (((((((True ∧ True) ∧ True) ∧ True) ∧ True) ∧ True) ∧ True) ∧ True)) rfl ⟨⟨⟨⟨⟨⟨⟨trivial, trivial⟩, trivial⟩, trivial⟩, trivial⟩, trivial⟩, trivial⟩, trivial⟩ ?_
                                    have f181 := (show 0 ≤ I167 73 (Int.toNat v6_127) ∧ I167 73 (Int.toNat v6_127) ≤ 7 from (hI167 73 (Int.toNat v6_127)).1)
                                    refine gv_run 4 true hD (pc' := 571) (lv' := [(0, .inr (.inr (some 0))), (5, .inl v5_118), (6, .inl v6_127)]) (st' := [.inl (I167 73 (Int.toNat v6_127)), .inl ((6 * v5_118) + v6_127), .inr (.inr (some 49))]) (h' := gr_h I167 J126) (C := ((((True ∧ True) ∧ True) ∧ True) ∧ (0 ≤ v6_127 ∧ v6_127 < ((6 : Nat) : Int)))) rfl ⟨⟨⟨⟨trivial, trivial⟩, trivial⟩, trivial⟩, ⟨by omega, by omega⟩⟩ ?_
                                    refine gv_run 1 true hD (pc' := 572) (lv' := [(0, .inr (.inr (some 0))), (5, .inl v5_118), (6, .inl v6_127)]) (st' := []) (h' := gz_up (gr_h I167 J126) 49 (Int.toNat (((6 * v5_118) + v6_127))) (.inl ((I167 73 (Int.toNat v6_127))))) (C := (True ∧ (0 ≤ (((6 * v5_118) + v6_127)) ∧ (((6 * v5_118) + v6_127)) < ((18432 : Nat) : Int)))) rfl ⟨trivial, ⟨by omega, by omega⟩⟩ ?_
                                    refine gr_st hI167 FI167 rfl rfl ⟨⟨by show 0 ≤ _; omega, by show _ ≤ 7; omega⟩, trivial⟩ (fun I182 hI182 FI182 q183 p183 => ?_)
                                    have t184 := p183 0 71 (fun q => absurd q.1 (by decide))
                                    have t185 := p183 0 72 (fun q => absurd q.1 (by decide))
                                    have t186 := p183 0 73 (fun q => absurd q.1 (by decide))
                                    have t187 := p183 0 69 (fun q => absurd q.1 (by decide))
                                    have t188 := p183 0 6 (fun q => absurd q.1 (by decide))
                                    have t189 := p183 0 59 (fun q => absurd q.1 (by decide))
                                    have f190 := (show 0 ≤ I182 0 71 ∧ I182 0 71 ≤ 5 from (hI182 0 71).1)
                                    have f191 := (show 0 ≤ I182 0 72 ∧ I182 0 72 ≤ 1000 from (hI182 0 72).1)
                                    have f192 := (show 0 ≤ I182 0 73 ∧ I182 0 73 ≤ 1001 from (hI182 0 73).1)
                                    have f193 := (show 0 ≤ I182 0 69 ∧ I182 0 69 ≤ 1000 from (hI182 0 69).1)
                                    have f194 := (show (-1) ≤ I182 0 6 ∧ I182 0 6 ≤ 7 from (hI182 0 6).1)
                                    have f195 := (show 0 ≤ I182 0 59 ∧ I182 0 59 ≤ 2000 from (hI182 0 59).1)
                                    have KLN_I182 := gr_LN_fr KLN_I167 (fun k => p183 19 k (fun q => absurd q.1 (by decide))) (by omega) (by omega)
                                    refine gv_run 2 true hD (pc' := 483) (lv' := [(6, .inl (v6_127 + 1)), (0, .inr (.inr (some 0))), (5, .inl v5_118)]) (st' := []) (h' := gr_h I182 J126) (C := ((True ∧ True) ∧ True)) rfl ⟨⟨trivial, trivial⟩, trivial⟩ ?_
                                    refine gv_pick [1, 2, 0] rfl ?_
                                    exact ih483 I182 J126 (v6_127 + 1) (by omega) hI182 FI182 FJ126 KLN_I182 ⟨by omega, by omega⟩ ⟨by omega, by omega⟩ (by omega) (by omega) (by omega) (by omega) (by omega) (by omega) (by omega) (by omega) (by omega) (by omega)
                              have f196 := (show 0 ≤ I116 0 118 ∧ I116 0 118 ≤ 6 from (hI116 0 118).1)
                              refine gv_run 3 true hD (pc' := 431) (lv' := [(0, .inr (.inr (some 0))), (5, .inl v5_118), (6, .inl v6_118)]) (st' := [.inl (I116 0 118), .inl v6_118]) (h' := gr_h I116 J117) (C := (((True ∧ True) ∧ True) ∧ True)) rfl ⟨⟨⟨trivial, trivial⟩, trivial⟩, trivial⟩ ?_
                              refine gv_icmp_ge (t := 480) hD rfl rfl ⟨⟨by omega, by omega⟩, ⟨by omega, by omega⟩⟩ (fun c197 => ?_) (fun c197 => ?_)
                              · refine gv_run 2 true hD (pc' := 483) (lv' := [(6, .inl 0), (0, .inr (.inr (some 0))), (5, .inl v5_118)]) (st' := []) (h' := gr_h I116 J117) (C := ((True ∧ True) ∧ True)) rfl ⟨⟨trivial, trivial⟩, trivial⟩ ?_
                                refine gv_pick [1, 2, 0] rfl ?_
                                exact L483 _ I116 J117 0 (Nat.lt_succ_self _) hI116 FI116 FJ117 KLN_I116 ⟨by omega, by omega⟩ ⟨by omega, by omega⟩ (by omega) (by omega) (by omega) (by omega) (by omega) (by omega) (by omega) (by omega) (by omega) (by omega)
                              · refine gv_run 7 true hD (pc' := 446) (lv' := [(0, .inr (.inr (some 0))), (5, .inl v5_118), (6, .inl v6_118)]) (st' := [.inl ((6 * v5_118) + v6_118), .inr (.inr (some 43))]) (h' := gr_h I116 J117) (C := (((((((True ∧ True) ∧ True) ∧ True) ∧ True) ∧ True) ∧ True) ∧ True)) rfl ⟨⟨⟨⟨⟨⟨⟨trivial, trivial⟩, trivial⟩, trivial⟩, trivial⟩, trivial⟩, trivial⟩, trivial⟩ ?_
                                have f198 := (show (-4) ≤ I116 68 (Int.toNat v6_118) ∧ I116 68 (Int.toNat v6_118) ≤ 32015 from (hI116 68 (Int.toNat v6_118)).1)
                                refine gv_run 4 true hD (pc' := 453) (lv' := [(0, .inr (.inr (some 0))), (5, .inl v5_118), (6, .inl v6_118)]) (st' := [.inl (I116 68 (Int.toNat v6_118)), .inl ((6 * v5_118) + v6_118), .inr (.inr (some 43))]) (h' := gr_h I116 J117) (C := ((((True ∧ True) ∧ True) ∧ True) ∧ (0 ≤ v6_118 ∧ v6_118 < ((6 : Nat) : Int)))) rfl ⟨⟨⟨⟨trivial, trivial⟩, trivial⟩, trivial⟩, ⟨by omega, by omega⟩⟩ ?_
                                refine gv_run 1 true hD (pc' := 454) (lv' := [(0, .inr (.inr (some 0))), (5, .inl v5_118), (6, .inl v6_118)]) (st' := []) (h' := gz_up (gr_h I116 J117) 43 (Int.toNat (((6 * v5_118) + v6_118))) (.inl ((I116 68 (Int.toNat v6_118))))) (C := (True ∧ (0 ≤ (((6 * v5_118) + v6_118)) ∧ (((6 * v5_118) + v6_118)) < ((18432 : Nat) : Int)))) rfl ⟨trivial, ⟨by omega, by omega⟩⟩ ?_
                                refine gr_st hI116 FI116 rfl rfl ⟨⟨by show (-4) ≤ _; omega, by show _ ≤ 32015; omega⟩, trivial⟩ (fun I199 hI199 FI199 q200 p200 => ?_)
                                have t201 := p200 0 71 (fun q => absurd q.1 (by decide))
                                have t202 := p200 0 72 (fun q => absurd q.1 (by decide))
                                have t203 := p200 0 73 (fun q => absurd q.1 (by decide))
                                have t204 := p200 0 69 (fun q => absurd q.1 (by decide))
                                have t205 := p200 0 6 (fun q => absurd q.1 (by decide))
                                have t206 := p200 0 59 (fun q => absurd q.1 (by decide))
                                have f207 := (show 0 ≤ I199 0 71 ∧ I199 0 71 ≤ 5 from (hI199 0 71).1)
                                have f208 := (show 0 ≤ I199 0 72 ∧ I199 0 72 ≤ 1000 from (hI199 0 72).1)
                                have f209 := (show 0 ≤ I199 0 73 ∧ I199 0 73 ≤ 1001 from (hI199 0 73).1)
                                have f210 := (show 0 ≤ I199 0 69 ∧ I199 0 69 ≤ 1000 from (hI199 0 69).1)
                                have f211 := (show (-1) ≤ I199 0 6 ∧ I199 0 6 ≤ 7 from (hI199 0 6).1)
                                have f212 := (show 0 ≤ I199 0 59 ∧ I199 0 59 ≤ 2000 from (hI199 0 59).1)
                                have KLN_I199 := gr_LN_fr KLN_I116 (fun k => p200 19 k (fun q => absurd q.1 (by decide))) (by omega) (by omega)
                                refine gv_run 7 true hD (pc' := 466) (lv' := [(0, .inr (.inr (some 0))), (5, .inl v5_118), (6, .inl v6_118)]) (st' := [.inl ((6 * v5_118) + v6_118), .inr (.inr (some 44))]) (h' := gr_h I199 J117) (C := (((((((True ∧ True) ∧ True) ∧ True) ∧ True) ∧ True) ∧ True) ∧ True)) rfl ⟨⟨⟨⟨⟨⟨⟨trivial, trivial⟩, trivial⟩, trivial⟩, trivial⟩, trivial⟩, trivial⟩, trivial⟩ ?_
                                have f213 := (show 0 ≤ I199 69 (Int.toNat v6_118) ∧ I199 69 (Int.toNat v6_118) ≤ 16777215 from (hI199 69 (Int.toNat v6_118)).1)
                                refine gv_run 4 true hD (pc' := 473) (lv' := [(0, .inr (.inr (some 0))), (5, .inl v5_118), (6, .inl v6_118)]) (st' := [.inl (I199 69 (Int.toNat v6_118)), .inl ((6 * v5_118) + v6_118), .inr (.inr (some 44))]) (h' := gr_h I199 J117) (C := ((((True ∧ True) ∧ True) ∧ True) ∧ (0 ≤ v6_118 ∧ v6_118 < ((6 : Nat) : Int)))) rfl ⟨⟨⟨⟨trivial, trivial⟩, trivial⟩, trivial⟩, ⟨by omega, by omega⟩⟩ ?_
                                refine gv_run 1 true hD (pc' := 474) (lv' := [(0, .inr (.inr (some 0))), (5, .inl v5_118), (6, .inl v6_118)]) (st' := []) (h' := gz_up (gr_h I199 J117) 44 (Int.toNat (((6 * v5_118) + v6_118))) (.inl ((I199 69 (Int.toNat v6_118))))) (C := (True ∧ (0 ≤ (((6 * v5_118) + v6_118)) ∧ (((6 * v5_118) + v6_118)) < ((18432 : Nat) : Int)))) rfl ⟨trivial, ⟨by omega, by omega⟩⟩ ?_
                                refine gr_st hI199 FI199 rfl rfl ⟨⟨by show 0 ≤ _; omega, by show _ ≤ 16777215; omega⟩, trivial⟩ (fun I214 hI214 FI214 q215 p215 => ?_)
                                have t216 := p215 0 71 (fun q => absurd q.1 (by decide))
                                have t217 := p215 0 72 (fun q => absurd q.1 (by decide))
                                have t218 := p215 0 73 (fun q => absurd q.1 (by decide))
                                have t219 := p215 0 69 (fun q => absurd q.1 (by decide))
                                have t220 := p215 0 6 (fun q => absurd q.1 (by decide))
                                have t221 := p215 0 59 (fun q => absurd q.1 (by decide))
                                have f222 := (show 0 ≤ I214 0 71 ∧ I214 0 71 ≤ 5 from (hI214 0 71).1)
                                have f223 := (show 0 ≤ I214 0 72 ∧ I214 0 72 ≤ 1000 from (hI214 0 72).1)
                                have f224 := (show 0 ≤ I214 0 73 ∧ I214 0 73 ≤ 1001 from (hI214 0 73).1)
                                have f225 := (show 0 ≤ I214 0 69 ∧ I214 0 69 ≤ 1000 from (hI214 0 69).1)
                                have f226 := (show (-1) ≤ I214 0 6 ∧ I214 0 6 ≤ 7 from (hI214 0 6).1)
                                have f227 := (show 0 ≤ I214 0 59 ∧ I214 0 59 ≤ 2000 from (hI214 0 59).1)
                                have KLN_I214 := gr_LN_fr KLN_I199 (fun k => p215 19 k (fun q => absurd q.1 (by decide))) (by omega) (by omega)
                                refine gv_run 2 true hD (pc' := 425) (lv' := [(6, .inl (v6_118 + 1)), (0, .inr (.inr (some 0))), (5, .inl v5_118)]) (st' := []) (h' := gr_h I214 J117) (C := ((True ∧ True) ∧ True)) rfl ⟨⟨trivial, trivial⟩, trivial⟩ ?_
                                refine gv_pick [1, 2, 0] rfl ?_
                                exact ih425 I214 J117 v5_118 (v6_118 + 1) (by omega) hI214 FI214 FJ117 KLN_I214 ⟨by omega, by omega⟩ ⟨by omega, by omega⟩ (by omega) (by omega) (by omega) (by omega) (by omega) (by omega) (by omega) (by omega) (by omega) (by omega)
                          obtain ⟨r228, h228, E228, P228⟩ := r_done (ws0 := ws0) (tb := tb) hws htb ext I79 J80 hI79 s1_109 ⟨by omega, by omega⟩ (by omega) (by omega) (by omega) (by omega) (by omega)
                          obtain ⟨I229, J230, rfl, hI229, g228, k228, ⟨z228, rfl, q228⟩⟩ := P228
                          have FI229 := gr_frt FI79 g228 rfl rfl
                          have FJ230 := gr_fjt FJ80 k228 rfl rfl
                          have t231 := g228 0 69 rfl
                          have t232 := g228 0 6 rfl
                          have t233 := g228 0 59 rfl
                          have t234 := g228 19 (Int.toNat v1_33) rfl
                          have f235 := (show 0 ≤ I229 0 71 ∧ I229 0 71 ≤ 5 from (hI229 0 71).1)
                          have f236 := (show 0 ≤ I229 0 72 ∧ I229 0 72 ≤ 1000 from (hI229 0 72).1)
                          have f237 := (show 0 ≤ I229 0 73 ∧ I229 0 73 ≤ 1001 from (hI229 0 73).1)
                          have f238 := (show 0 ≤ I229 0 69 ∧ I229 0 69 ≤ 1000 from (hI229 0 69).1)
                          have f239 := (show (-1) ≤ I229 0 6 ∧ I229 0 6 ≤ 7 from (hI229 0 6).1)
                          have f240 := (show 0 ≤ I229 0 59 ∧ I229 0 59 ≤ 2000 from (hI229 0 59).1)
                          have KLN_I229 := gr_LN_fr KLN_I79 (fun k => g228 19 k rfl) (by omega) (by omega)
                          have t241 := KLN_I229 (Int.toNat v1_33) (by omega)
                          refine gv_callV hD rfl (As := [.inl s1_109]) (st := []) rfl (by decide) rfl rfl (gr_lV hws rfl) (Nat.le_of_ble_eq_true rfl) (gz_Ev_mono (d := 11) (by decide) E228) ?_
                          show gv_X _ _ (357, [(0, .inr (.inr (some 0))), (1, .inl v1_33), (3, .inl v3_33)], [.inl z228], gr_sh ++ ext, gr_h I229 J230)
                          refine gv_if_ne (t := 362) hD rfl rfl ⟨by omega, by omega⟩ (fun c242 => ?_) (fun c242 => ?_)
                          · refine gv_run 7 true hD (pc' := 373) (lv' := [(0, .inr (.inr (some 0))), (1, .inl v1_33), (3, .inl v3_33)]) (st' := [.inl v1_33, .inr (.inr (some 19)), .inl v1_33, .inr (.inr (some 19)), .inl (384 * v1_33)]) (h' := gr_h I229 J230) (C := (((((((True ∧ True) ∧ True) ∧ True) ∧ True) ∧ True) ∧ True) ∧ True)) rfl ⟨⟨⟨⟨⟨⟨⟨trivial, trivial⟩, trivial⟩, trivial⟩, trivial⟩, trivial⟩, trivial⟩, trivial⟩ ?_
                            have f243 := (show 0 ≤ I229 19 (Int.toNat v1_33) ∧ I229 19 (Int.toNat v1_33) ≤ 384 from (hI229 19 (Int.toNat v1_33)).1)
                            refine gv_run 1 true hD (pc' := 374) (lv' := [(0, .inr (.inr (some 0))), (1, .inl v1_33), (3, .inl v3_33)]) (st' := [.inl (I229 19 (Int.toNat v1_33)), .inl v1_33, .inr (.inr (some 19)), .inl (384 * v1_33)]) (h' := gr_h I229 J230) (C := (True ∧ (0 ≤ v1_33 ∧ v1_33 < ((8 : Nat) : Int)))) rfl ⟨trivial, ⟨by omega, by omega⟩⟩ ?_
                            refine gv_run 3 true hD (pc' := 377) (lv' := [(0, .inr (.inr (some 0))), (1, .inl v1_33), (3, .inl v3_33)]) (st' := [.inl ((I229 19 (Int.toNat v1_33)) + 1), .inl v1_33, .inr (.inr (some 19)), .inl (I229 19 (Int.toNat v1_33)), .inl (384 * v1_33)]) (h' := gr_h I229 J230) (C := (((True ∧ True) ∧ True) ∧ True)) rfl ⟨⟨⟨trivial, trivial⟩, trivial⟩, trivial⟩ ?_
                            refine gv_run 1 true hD (pc' := 378) (lv' := [(0, .inr (.inr (some 0))), (1, .inl v1_33), (3, .inl v3_33)]) (st' := [.inl (I229 19 (Int.toNat v1_33)), .inl (384 * v1_33)]) (h' := gz_up (gr_h I229 J230) 19 (Int.toNat v1_33) (.inl (((I229 19 (Int.toNat v1_33)) + 1)))) (C := (True ∧ (0 ≤ v1_33 ∧ v1_33 < ((8 : Nat) : Int)))) rfl ⟨trivial, ⟨by omega, by omega⟩⟩ ?_
                            refine gr_st hI229 FI229 rfl rfl ⟨⟨by show 0 ≤ _; omega, by show _ ≤ 384; omega⟩, trivial⟩ (fun I244 hI244 FI244 q245 p245 => ?_)
                            have t246 := p245 0 71 (fun q => absurd q.1 (by decide))
                            have t247 := p245 0 72 (fun q => absurd q.1 (by decide))
                            have t248 := p245 0 73 (fun q => absurd q.1 (by decide))
                            have t249 := p245 0 69 (fun q => absurd q.1 (by decide))
                            have t250 := p245 0 6 (fun q => absurd q.1 (by decide))
                            have t251 := p245 0 59 (fun q => absurd q.1 (by decide))
                            have f252 := (show 0 ≤ I244 0 71 ∧ I244 0 71 ≤ 5 from (hI244 0 71).1)
                            have f253 := (show 0 ≤ I244 0 72 ∧ I244 0 72 ≤ 1000 from (hI244 0 72).1)
                            have f254 := (show 0 ≤ I244 0 73 ∧ I244 0 73 ≤ 1001 from (hI244 0 73).1)
                            have f255 := (show 0 ≤ I244 0 69 ∧ I244 0 69 ≤ 1000 from (hI244 0 69).1)
                            have f256 := (show (-1) ≤ I244 0 6 ∧ I244 0 6 ≤ 7 from (hI244 0 6).1)
                            have f257 := (show 0 ≤ I244 0 59 ∧ I244 0 59 ≤ 2000 from (hI244 0 59).1)
                            have KLN_I244 := gr_LN_l KLN_I229 p245 (by omega)
                            have t258 := KLN_I244 (Int.toNat v1_33) (by omega)
                            refine gv_run 6 true hD (pc' := 388) (lv' := [(5, .inl ((384 * v1_33) + (I229 19 (Int.toNat v1_33)))), (0, .inr (.inr (some 0))), (1, .inl v1_33), (3, .inl v3_33)]) (st' := [.inl v3_33, .inl ((384 * v1_33) + (I229 19 (Int.toNat v1_33))), .inr (.inr (some 41))]) (h' := gr_h I244 J230) (C := ((((((True ∧ True) ∧ True) ∧ True) ∧ True) ∧ True) ∧ True)) rfl ⟨⟨⟨⟨⟨⟨trivial, trivial⟩, trivial⟩, trivial⟩, trivial⟩, trivial⟩, trivial⟩ ?_
                            refine gv_run 1 true hD (pc' := 389) (lv' := [(5, .inl ((384 * v1_33) + (I229 19 (Int.toNat v1_33)))), (0, .inr (.inr (some 0))), (1, .inl v1_33), (3, .inl v3_33)]) (st' := []) (h' := gz_up (gr_h I244 J230) 41 (Int.toNat (((384 * v1_33) + (I229 19 (Int.toNat v1_33))))) (.inl v3_33)) (C := (True ∧ (0 ≤ (((384 * v1_33) + (I229 19 (Int.toNat v1_33)))) ∧ (((384 * v1_33) + (I229 19 (Int.toNat v1_33)))) < ((3072 : Nat) : Int)))) rfl ⟨trivial, ⟨by omega, by omega⟩⟩ ?_
                            refine gr_st hI244 FI244 rfl rfl ⟨⟨by show 0 ≤ _; omega, by show _ ≤ 95; omega⟩, trivial⟩ (fun I259 hI259 FI259 q260 p260 => ?_)
                            have t261 := p260 0 71 (fun q => absurd q.1 (by decide))
                            have t262 := p260 0 72 (fun q => absurd q.1 (by decide))
                            have t263 := p260 0 73 (fun q => absurd q.1 (by decide))
                            have t264 := p260 0 69 (fun q => absurd q.1 (by decide))
                            have t265 := p260 0 6 (fun q => absurd q.1 (by decide))
                            have t266 := p260 0 59 (fun q => absurd q.1 (by decide))
                            have t267 := p260 19 (Int.toNat v1_33) (fun q => absurd q.1 (by decide))
                            have f268 := (show 0 ≤ I259 0 71 ∧ I259 0 71 ≤ 5 from (hI259 0 71).1)
                            have f269 := (show 0 ≤ I259 0 72 ∧ I259 0 72 ≤ 1000 from (hI259 0 72).1)
                            have f270 := (show 0 ≤ I259 0 73 ∧ I259 0 73 ≤ 1001 from (hI259 0 73).1)
                            have f271 := (show 0 ≤ I259 0 69 ∧ I259 0 69 ≤ 1000 from (hI259 0 69).1)
                            have f272 := (show (-1) ≤ I259 0 6 ∧ I259 0 6 ≤ 7 from (hI259 0 6).1)
                            have f273 := (show 0 ≤ I259 0 59 ∧ I259 0 59 ≤ 2000 from (hI259 0 59).1)
                            have KLN_I259 := gr_LN_fr KLN_I244 (fun k => p260 19 k (fun q => absurd q.1 (by decide))) (by omega) (by omega)
                            have t274 := KLN_I259 (Int.toNat v1_33) (by omega)
                            have f275 := (show 0 ≤ I259 0 118 ∧ I259 0 118 ≤ 6 from (hI259 0 118).1)
                            refine gv_run 5 true hD (pc' := 399) (lv' := [(5, .inl ((384 * v1_33) + (I229 19 (Int.toNat v1_33)))), (0, .inr (.inr (some 0))), (1, .inl v1_33), (3, .inl v3_33)]) (st' := [.inl (I259 0 118), .inl ((384 * v1_33) + (I229 19 (Int.toNat v1_33))), .inr (.inr (some 42))]) (h' := gr_h I259 J230) (C := (((((True ∧ True) ∧ True) ∧ True) ∧ True) ∧ True)) rfl ⟨⟨⟨⟨⟨trivial, trivial⟩, trivial⟩, trivial⟩, trivial⟩, trivial⟩ ?_
                            refine gv_run 1 true hD (pc' := 400) (lv' := [(5, .inl ((384 * v1_33) + (I229 19 (Int.toNat v1_33)))), (0, .inr (.inr (some 0))), (1, .inl v1_33), (3, .inl v3_33)]) (st' := []) (h' := gz_up (gr_h I259 J230) 42 (Int.toNat (((384 * v1_33) + (I229 19 (Int.toNat v1_33))))) (.inl (I259 0 118))) (C := (True ∧ (0 ≤ (((384 * v1_33) + (I229 19 (Int.toNat v1_33)))) ∧ (((384 * v1_33) + (I229 19 (Int.toNat v1_33)))) < ((3072 : Nat) : Int)))) rfl ⟨trivial, ⟨by omega, by omega⟩⟩ ?_
                            refine gr_st hI259 FI259 rfl rfl ⟨⟨by show 0 ≤ _; omega, by show _ ≤ 6; omega⟩, trivial⟩ (fun I276 hI276 FI276 q277 p277 => ?_)
                            have t278 := p277 0 71 (fun q => absurd q.1 (by decide))
                            have t279 := p277 0 72 (fun q => absurd q.1 (by decide))
                            have t280 := p277 0 73 (fun q => absurd q.1 (by decide))
                            have t281 := p277 0 69 (fun q => absurd q.1 (by decide))
                            have t282 := p277 0 6 (fun q => absurd q.1 (by decide))
                            have t283 := p277 0 59 (fun q => absurd q.1 (by decide))
                            have t284 := p277 19 (Int.toNat v1_33) (fun q => absurd q.1 (by decide))
                            have f285 := (show 0 ≤ I276 0 71 ∧ I276 0 71 ≤ 5 from (hI276 0 71).1)
                            have f286 := (show 0 ≤ I276 0 72 ∧ I276 0 72 ≤ 1000 from (hI276 0 72).1)
                            have f287 := (show 0 ≤ I276 0 73 ∧ I276 0 73 ≤ 1001 from (hI276 0 73).1)
                            have f288 := (show 0 ≤ I276 0 69 ∧ I276 0 69 ≤ 1000 from (hI276 0 69).1)
                            have f289 := (show (-1) ≤ I276 0 6 ∧ I276 0 6 ≤ 7 from (hI276 0 6).1)
                            have f290 := (show 0 ≤ I276 0 59 ∧ I276 0 59 ≤ 2000 from (hI276 0 59).1)
                            have KLN_I276 := gr_LN_fr KLN_I259 (fun k => p277 19 k (fun q => absurd q.1 (by decide))) (by omega) (by omega)
                            have t291 := KLN_I276 (Int.toNat v1_33) (by omega)
                            have f292 := (show 0 ≤ I276 0 119 ∧ I276 0 119 ≤ 6 from (hI276 0 119).1)
                            refine gv_run 5 true hD (pc' := 410) (lv' := [(5, .inl ((384 * v1_33) + (I229 19 (Int.toNat v1_33)))), (0, .inr (.inr (some 0))), (1, .inl v1_33), (3, .inl v3_33)]) (st' := [.inl (I276 0 119), .inl ((384 * v1_33) + (I229 19 (Int.toNat v1_33))), .inr (.inr (some 45))]) (h' := gr_h I276 J230) (C := (((((True ∧ True) ∧ True) ∧ True) ∧ True) ∧ True)) rfl ⟨⟨⟨⟨⟨trivial, trivial⟩, trivial⟩, trivial⟩, trivial⟩, trivial⟩ ?_
                            refine gv_run 1 true hD (pc' := 411) (lv' := [(5, .inl ((384 * v1_33) + (I229 19 (Int.toNat v1_33)))), (0, .inr (.inr (some 0))), (1, .inl v1_33), (3, .inl v3_33)]) (st' := []) (h' := gz_up (gr_h I276 J230) 45 (Int.toNat (((384 * v1_33) + (I229 19 (Int.toNat v1_33))))) (.inl (I276 0 119))) (C := (True ∧ (0 ≤ (((384 * v1_33) + (I229 19 (Int.toNat v1_33)))) ∧ (((384 * v1_33) + (I229 19 (Int.toNat v1_33)))) < ((3072 : Nat) : Int)))) rfl ⟨trivial, ⟨by omega, by omega⟩⟩ ?_
                            refine gr_st hI276 FI276 rfl rfl ⟨⟨by show 0 ≤ _; omega, by show _ ≤ 6; omega⟩, trivial⟩ (fun I293 hI293 FI293 q294 p294 => ?_)
                            have t295 := p294 0 71 (fun q => absurd q.1 (by decide))
                            have t296 := p294 0 72 (fun q => absurd q.1 (by decide))
                            have t297 := p294 0 73 (fun q => absurd q.1 (by decide))
                            have t298 := p294 0 69 (fun q => absurd q.1 (by decide))
                            have t299 := p294 0 6 (fun q => absurd q.1 (by decide))
                            have t300 := p294 0 59 (fun q => absurd q.1 (by decide))
                            have t301 := p294 19 (Int.toNat v1_33) (fun q => absurd q.1 (by decide))
                            have f302 := (show 0 ≤ I293 0 71 ∧ I293 0 71 ≤ 5 from (hI293 0 71).1)
                            have f303 := (show 0 ≤ I293 0 72 ∧ I293 0 72 ≤ 1000 from (hI293 0 72).1)
                            have f304 := (show 0 ≤ I293 0 73 ∧ I293 0 73 ≤ 1001 from (hI293 0 73).1)
                            have f305 := (show 0 ≤ I293 0 69 ∧ I293 0 69 ≤ 1000 from (hI293 0 69).1)
                            have f306 := (show (-1) ≤ I293 0 6 ∧ I293 0 6 ≤ 7 from (hI293 0 6).1)
                            have f307 := (show 0 ≤ I293 0 59 ∧ I293 0 59 ≤ 2000 from (hI293 0 59).1)
                            have KLN_I293 := gr_LN_fr KLN_I276 (fun k => p294 19 k (fun q => absurd q.1 (by decide))) (by omega) (by omega)
                            have t308 := KLN_I293 (Int.toNat v1_33) (by omega)
                            have f309 := (show 0 ≤ I293 0 101 ∧ I293 0 101 ≤ 10000 from (hI293 0 101).1)
                            refine gv_run 5 true hD (pc' := 421) (lv' := [(5, .inl ((384 * v1_33) + (I229 19 (Int.toNat v1_33)))), (0, .inr (.inr (some 0))), (1, .inl v1_33), (3, .inl v3_33)]) (st' := [.inl (I293 0 101), .inl ((384 * v1_33) + (I229 19 (Int.toNat v1_33))), .inr (.inr (some 50))]) (h' := gr_h I293 J230) (C := (((((True ∧ True) ∧ True) ∧ True) ∧ True) ∧ True)) rfl ⟨⟨⟨⟨⟨trivial, trivial⟩, trivial⟩, trivial⟩, trivial⟩, trivial⟩ ?_
                            refine gv_run 1 true hD (pc' := 422) (lv' := [(5, .inl ((384 * v1_33) + (I229 19 (Int.toNat v1_33)))), (0, .inr (.inr (some 0))), (1, .inl v1_33), (3, .inl v3_33)]) (st' := []) (h' := gz_up (gr_h I293 J230) 50 (Int.toNat (((384 * v1_33) + (I229 19 (Int.toNat v1_33))))) (.inl (I293 0 101))) (C := (True ∧ (0 ≤ (((384 * v1_33) + (I229 19 (Int.toNat v1_33)))) ∧ (((384 * v1_33) + (I229 19 (Int.toNat v1_33)))) < ((3072 : Nat) : Int)))) rfl ⟨trivial, ⟨by omega, by omega⟩⟩ ?_
                            refine gr_st hI293 FI293 rfl rfl ⟨⟨by show 0 ≤ _; omega, by show _ ≤ 10000; omega⟩, trivial⟩ (fun I310 hI310 FI310 q311 p311 => ?_)
                            have t312 := p311 0 71 (fun q => absurd q.1 (by decide))
                            have t313 := p311 0 72 (fun q => absurd q.1 (by decide))
                            have t314 := p311 0 73 (fun q => absurd q.1 (by decide))
                            have t315 := p311 0 69 (fun q => absurd q.1 (by decide))
                            have t316 := p311 0 6 (fun q => absurd q.1 (by decide))
                            have t317 := p311 0 59 (fun q => absurd q.1 (by decide))
                            have t318 := p311 19 (Int.toNat v1_33) (fun q => absurd q.1 (by decide))
                            have f319 := (show 0 ≤ I310 0 71 ∧ I310 0 71 ≤ 5 from (hI310 0 71).1)
                            have f320 := (show 0 ≤ I310 0 72 ∧ I310 0 72 ≤ 1000 from (hI310 0 72).1)
                            have f321 := (show 0 ≤ I310 0 73 ∧ I310 0 73 ≤ 1001 from (hI310 0 73).1)
                            have f322 := (show 0 ≤ I310 0 69 ∧ I310 0 69 ≤ 1000 from (hI310 0 69).1)
                            have f323 := (show (-1) ≤ I310 0 6 ∧ I310 0 6 ≤ 7 from (hI310 0 6).1)
                            have f324 := (show 0 ≤ I310 0 59 ∧ I310 0 59 ≤ 2000 from (hI310 0 59).1)
                            have KLN_I310 := gr_LN_fr KLN_I293 (fun k => p311 19 k (fun q => absurd q.1 (by decide))) (by omega) (by omega)
                            have t325 := KLN_I310 (Int.toNat v1_33) (by omega)
                            refine gv_run 2 true hD (pc' := 425) (lv' := [(6, .inl 0), (5, .inl ((384 * v1_33) + (I229 19 (Int.toNat v1_33)))), (0, .inr (.inr (some 0))), (1, .inl v1_33), (3, .inl v3_33)]) (st' := []) (h' := gr_h I310 J230) (C := ((True ∧ True) ∧ True)) rfl ⟨⟨trivial, trivial⟩, trivial⟩ ?_
                            refine gv_pick [2, 1, 0] rfl ?_
                            exact L425 _ I310 J230 (((384 * v1_33) + (I229 19 (Int.toNat v1_33)))) 0 (Nat.lt_succ_self _) hI310 FI310 FJ230 KLN_I310 ⟨by omega, by omega⟩ ⟨by omega, by omega⟩ (by omega) (by omega) (by omega) (by omega) (by omega) (by omega) (by omega) (by omega) (by omega) (by omega)
                          · refine gv_run 1 true hD (pc' := 361) (lv' := [(0, .inr (.inr (some 0))), (1, .inl v1_33), (3, .inl v3_33)]) (st' := [.inl 0]) (h' := gr_h I229 J230) (C := (True ∧ True)) rfl ⟨trivial, trivial⟩ ?_
                            exact gv_zret hD rfl (by omega) ⟨I229, J230, rfl, hI229, FI229, FJ230, KLN_I229, ⟨_, rfl, by omega, by omega, by omega, by omega, by omega, by omega, by omega, by omega, by omega, by omega, by omega⟩⟩
                        have f326 := (show 0 ≤ I79 19 (Int.toNat v1_33) ∧ I79 19 (Int.toNat v1_33) ≤ 384 from (hI79 19 (Int.toNat v1_33)).1)
                        refine gv_run 5 true hD (pc' := 313) (lv' := [(0, .inr (.inr (some 0))), (1, .inl v1_33), (3, .inl v3_33), (4, .inl v4_95), (5, .inl v5_95)]) (st' := [.inl (I79 19 (Int.toNat v1_33)), .inl v5_95]) (h' := gr_h I79 J80) (C := (((((True ∧ True) ∧ True) ∧ True) ∧ True) ∧ (0 ≤ v1_33 ∧ v1_33 < ((8 : Nat) : Int)))) rfl ⟨⟨⟨⟨⟨trivial, trivial⟩, trivial⟩, trivial⟩, trivial⟩, ⟨by omega, by omega⟩⟩ ?_
                        refine gv_icmp_ge (t := 342) hD rfl rfl ⟨⟨by omega, by omega⟩, ⟨by omega, by omega⟩⟩ (fun c327 => ?_) (fun c327 => ?_)
                        · refine gv_run 3 true hD (pc' := 346) (lv' := [(0, .inr (.inr (some 0))), (1, .inl v1_33), (3, .inl v3_33), (4, .inl v4_95), (5, .inl v5_95)]) (st' := [.inl 4, .inl v4_95, .inr (.inr (some 0))]) (h' := gr_h I79 J80) (C := (((True ∧ True) ∧ True) ∧ True)) rfl ⟨⟨⟨trivial, trivial⟩, trivial⟩, trivial⟩ ?_
                          refine gv_icmp_ge (t := 353) hD rfl rfl ⟨⟨by omega, by omega⟩, ⟨by omega, by omega⟩⟩ (fun c328 => ?_) (fun c328 => ?_)
                          · refine gv_run 1 true hD (pc' := 354) (lv' := [(0, .inr (.inr (some 0))), (1, .inl v1_33), (3, .inl v3_33), (4, .inl v4_95), (5, .inl v5_95)]) (st' := [.inl 0, .inr (.inr (some 0))]) (h' := gr_h I79 J80) (C := (True ∧ True)) rfl ⟨trivial, trivial⟩ ?_
                            refine gv_pick [0, 1, 2] rfl ?_
                            exact L354 0 ⟨by omega, by omega⟩ ⟨by omega, by omega⟩ ⟨by omega, by omega⟩ (by omega) (by omega) (by omega) (by omega) (by omega) (by omega) (by omega) (by omega) (by omega) (by omega) (by omega)
                          · refine gv_run 2 true hD (pc' := 354) (lv' := [(0, .inr (.inr (some 0))), (1, .inl v1_33), (3, .inl v3_33), (4, .inl v4_95), (5, .inl v5_95)]) (st' := [.inl 1, .inr (.inr (some 0))]) (h' := gr_h I79 J80) (C := ((True ∧ True) ∧ True)) rfl ⟨⟨trivial, trivial⟩, trivial⟩ ?_
                            refine gv_pick [0, 1, 2] rfl ?_
                            exact L354 1 ⟨by omega, by omega⟩ ⟨by omega, by omega⟩ ⟨by omega, by omega⟩ (by omega) (by omega) (by omega) (by omega) (by omega) (by omega) (by omega) (by omega) (by omega) (by omega) (by omega)
                        · refine gv_run 7 true hD (pc' := 328) (lv' := [(0, .inr (.inr (some 0))), (1, .inl v1_33), (3, .inl v3_33), (4, .inl v4_95), (5, .inl v5_95)]) (st' := [.inl ((384 * v1_33) + v5_95), .inr (.inr (some 41))]) (h' := gr_h I79 J80) (C := (((((((True ∧ True) ∧ True) ∧ True) ∧ True) ∧ True) ∧ True) ∧ True)) rfl ⟨⟨⟨⟨⟨⟨⟨trivial, trivial⟩, trivial⟩, trivial⟩, trivial⟩, trivial⟩, trivial⟩, trivial⟩ ?_
                          have f329 := (show 0 ≤ I79 41 (Int.toNat (((384 * v1_33) + v5_95))) ∧ I79 41 (Int.toNat (((384 * v1_33) + v5_95))) ≤ 95 from (hI79 41 (Int.toNat (((384 * v1_33) + v5_95)))).1)
                          refine gv_run 1 true hD (pc' := 329) (lv' := [(0, .inr (.inr (some 0))), (1, .inl v1_33), (3, .inl v3_33), (4, .inl v4_95), (5, .inl v5_95)]) (st' := [.inl (I79 41 (Int.toNat (((384 * v1_33) + v5_95))))]) (h' := gr_h I79 J80) (C := (True ∧ (0 ≤ (((384 * v1_33) + v5_95)) ∧ (((384 * v1_33) + v5_95)) < ((3072 : Nat) : Int)))) rfl ⟨trivial, ⟨by omega, by omega⟩⟩ ?_
                          refine gv_run 1 true hD (pc' := 330) (lv' := [(0, .inr (.inr (some 0))), (1, .inl v1_33), (3, .inl v3_33), (4, .inl v4_95), (5, .inl v5_95)]) (st' := [.inl v3_33, .inl (I79 41 (Int.toNat (((384 * v1_33) + v5_95))))]) (h' := gr_h I79 J80) (C := (True ∧ True)) rfl ⟨trivial, trivial⟩ ?_
                          refine gv_icmp_ne (t := 336) hD rfl rfl ⟨⟨by omega, by omega⟩, ⟨by omega, by omega⟩⟩ (fun c330 => ?_) (fun c330 => ?_)
                          · exact L336 v4_95 ⟨by omega, by omega⟩ ⟨by omega, by omega⟩ ⟨by omega, by omega⟩ ⟨by omega, by omega⟩ (by omega) (by omega) (by omega) (by omega) (by omega) (by omega) (by omega) (by omega) (by omega) (by omega) (by omega)
                          · refine gv_run 1 true hD (pc' := 336) (lv' := [(4, .inl (v4_95 + 1)), (0, .inr (.inr (some 0))), (1, .inl v1_33), (3, .inl v3_33), (5, .inl v5_95)]) (st' := []) (h' := gr_h I79 J80) (C := (True ∧ True)) rfl ⟨trivial, trivial⟩ ?_
                            refine gv_pick [1, 2, 3, 0, 4] rfl ?_
                            exact L336 (v4_95 + 1) ⟨by omega, by omega⟩ ⟨by omega, by omega⟩ ⟨by omega, by omega⟩ ⟨by omega, by omega⟩ (by omega) (by omega) (by omega) (by omega) (by omega) (by omega) (by omega) (by omega) (by omega) (by omega) (by omega)
                    have f331 := (show 0 ≤ I79 6 (Int.toNat v3_33) ∧ I79 6 (Int.toNat v3_33) ≤ 4 from (hI79 6 (Int.toNat v3_33)).1)
                    refine gv_run 5 true hD (pc' := 272) (lv' := [(0, .inr (.inr (some 0))), (1, .inl v1_33), (2, .inl v2_33), (3, .inl v3_33), (4, .inl v4_88)]) (st' := [.inl (I79 6 (Int.toNat v3_33)), .inl v4_88]) (h' := gr_h I79 J80) (C := (((((True ∧ True) ∧ True) ∧ True) ∧ True) ∧ (0 ≤ v3_33 ∧ v3_33 < ((96 : Nat) : Int)))) rfl ⟨⟨⟨⟨⟨trivial, trivial⟩, trivial⟩, trivial⟩, trivial⟩, ⟨by omega, by omega⟩⟩ ?_
                    refine gv_icmp_ge (t := 299) hD rfl rfl ⟨⟨by omega, by omega⟩, ⟨by omega, by omega⟩⟩ (fun c332 => ?_) (fun c332 => ?_)
                    · refine gv_run 4 true hD (pc' := 305) (lv' := [(5, .inl 0), (4, .inl 0), (0, .inr (.inr (some 0))), (1, .inl v1_33), (2, .inl v2_33), (3, .inl v3_33)]) (st' := []) (h' := gr_h I79 J80) (C := ((((True ∧ True) ∧ True) ∧ True) ∧ True)) rfl ⟨⟨⟨⟨trivial, trivial⟩, trivial⟩, trivial⟩, trivial⟩ ?_
                      refine gv_pick [2, 3, 5, 1, 0] rfl ?_
                      exact L305 _ 0 0 (Nat.lt_succ_self _) ⟨by omega, by omega⟩ ⟨by omega, by omega⟩ ⟨by omega, by omega⟩ ⟨by omega, by omega⟩ (by omega) (by omega) (by omega) (by omega) (by omega) (by omega) (by omega) (by omega) (by omega) (by omega) (by omega)
                    · have f333 := (show (-1) ≤ I79 74 (Int.toNat v4_88) ∧ I79 74 (Int.toNat v4_88) ≤ 1000 from (hI79 74 (Int.toNat v4_88)).1)
                      refine gv_run 4 true hD (pc' := 282) (lv' := [(0, .inr (.inr (some 0))), (1, .inl v1_33), (2, .inl v2_33), (3, .inl v3_33), (4, .inl v4_88)]) (st' := [.inl (I79 74 (Int.toNat v4_88))]) (h' := gr_h I79 J80) (C := ((((True ∧ True) ∧ True) ∧ True) ∧ (0 ≤ v4_88 ∧ v4_88 < ((4 : Nat) : Int)))) rfl ⟨⟨⟨⟨trivial, trivial⟩, trivial⟩, trivial⟩, ⟨by omega, by omega⟩⟩ ?_
                      refine gv_if_ge (t := 293) hD rfl rfl ⟨by omega, by omega⟩ (fun c334 => ?_) (fun c334 => ?_)
                      · refine gv_run 2 true hD (pc' := 264) (lv' := [(4, .inl (v4_88 + 1)), (0, .inr (.inr (some 0))), (1, .inl v1_33), (2, .inl v2_33), (3, .inl v3_33)]) (st' := []) (h' := gr_h I79 J80) (C := ((True ∧ True) ∧ True)) rfl ⟨⟨trivial, trivial⟩, trivial⟩ ?_
                        refine gv_pick [1, 2, 3, 4, 0] rfl ?_
                        exact ih264 (v4_88 + 1) (by omega) ⟨by omega, by omega⟩ ⟨by omega, by omega⟩ ⟨by omega, by omega⟩ ⟨by omega, by omega⟩ (by omega) (by omega) (by omega) (by omega) (by omega) (by omega) (by omega) (by omega) (by omega) (by omega)
                      · refine gv_run 3 true hD (pc' := 289) (lv' := [(0, .inr (.inr (some 0))), (1, .inl v1_33), (2, .inl v2_33), (3, .inl v3_33), (4, .inl v4_88)]) (st' := [.inl v2_33, .inl 6, .inr (.inr (some 0))]) (h' := gr_h I79 J80) (C := (((True ∧ True) ∧ True) ∧ True)) rfl ⟨⟨⟨trivial, trivial⟩, trivial⟩, trivial⟩ ?_
                        obtain ⟨r335, h335, E335, P335⟩ := r_no (ws0 := ws0) (tb := tb) hws htb ext I79 J80 hI79 6 v2_33 ⟨by omega, by omega⟩ ⟨by omega, by omega⟩ 
                        obtain ⟨I336, J337, rfl, hI336, g335, k335, ⟨z335, rfl, q335⟩⟩ := P335
                        have FI336 := gr_frt FI79 g335 rfl rfl
                        have FJ337 := gr_fjt FJ80 k335 rfl rfl
                        have t338 := g335 0 71 rfl
                        have t339 := g335 0 72 rfl
                        have t340 := g335 0 73 rfl
                        have t341 := g335 0 69 rfl
                        have t342 := g335 0 6 rfl
                        have t343 := g335 0 59 rfl
                        have t344 := g335 19 (Int.toNat v1_33) rfl
                        have f345 := (show 0 ≤ I336 0 71 ∧ I336 0 71 ≤ 5 from (hI336 0 71).1)
                        have f346 := (show 0 ≤ I336 0 72 ∧ I336 0 72 ≤ 1000 from (hI336 0 72).1)
                        have f347 := (show 0 ≤ I336 0 73 ∧ I336 0 73 ≤ 1001 from (hI336 0 73).1)
                        have f348 := (show 0 ≤ I336 0 69 ∧ I336 0 69 ≤ 1000 from (hI336 0 69).1)
                        have f349 := (show (-1) ≤ I336 0 6 ∧ I336 0 6 ≤ 7 from (hI336 0 6).1)
                        have f350 := (show 0 ≤ I336 0 59 ∧ I336 0 59 ≤ 2000 from (hI336 0 59).1)
                        have KLN_I336 := gr_LN_fr KLN_I79 (fun k => g335 19 k rfl) (by omega) (by omega)
                        have t351 := KLN_I336 (Int.toNat v1_33) (by omega)
                        refine gv_callV hD rfl (As := [.inl 6, .inl v2_33]) (st := []) rfl (by decide) rfl rfl (gr_lV hws rfl) (Nat.le_of_ble_eq_true rfl) (gz_Ev_mono (d := 1) (by decide) E335) ?_
                        show gv_X _ _ (292, [(0, .inr (.inr (some 0))), (1, .inl v1_33), (2, .inl v2_33), (3, .inl v3_33), (4, .inl v4_88)], [.inl z335], gr_sh ++ ext, gr_h I336 J337)
                        exact gv_zret hD rfl (by omega) ⟨I336, J337, rfl, hI336, FI336, FJ337, KLN_I336, ⟨_, rfl, by omega, by omega, by omega, by omega, by omega, by omega, by omega, by omega, by omega, by omega, by omega⟩⟩
                refine gv_run 2 true hD (pc' := 264) (lv' := [(4, .inl 0), (0, .inr (.inr (some 0))), (1, .inl v1_33), (2, .inl v2_33), (3, .inl v3_33)]) (st' := []) (h' := gr_h I79 J80) (C := ((True ∧ True) ∧ True)) rfl ⟨⟨trivial, trivial⟩, trivial⟩ ?_
                refine gv_pick [1, 2, 3, 4, 0] rfl ?_
                exact L264 _ 0 (Nat.lt_succ_self _) ⟨by omega, by omega⟩ ⟨by omega, by omega⟩ ⟨by omega, by omega⟩ ⟨by omega, by omega⟩ (by omega) (by omega) (by omega) (by omega) (by omega) (by omega) (by omega) (by omega) (by omega) (by omega)
              refine gv_run 2 true hD (pc' := 154) (lv' := [(0, .inr (.inr (some 0))), (1, .inl v1_33), (2, .inl v2_33), (3, .inl v3_33)]) (st' := [.inl 44, .inr (.inr (some 0))]) (h' := gr_h I70 J71) (C := ((True ∧ True) ∧ True)) rfl ⟨⟨trivial, trivial⟩, trivial⟩ ?_
              obtain ⟨r352, h352, E352, P352⟩ := r_sign (ws0 := ws0) (tb := tb) hws htb ext I70 J71 hI70 44 ⟨by omega, by omega⟩ (by omega)
              obtain ⟨rfl, ⟨z352, rfl, q352⟩⟩ := P352
              refine gv_callV hD rfl (As := [.inl 44]) (st := []) rfl (by decide) rfl rfl (gr_lV hws rfl) (Nat.le_of_ble_eq_true rfl) (gz_Ev_mono (d := 1) (by decide) E352) ?_
              show gv_X _ _ (157, [(0, .inr (.inr (some 0))), (1, .inl v1_33), (2, .inl v2_33), (3, .inl v3_33)], [.inl z352], gr_sh ++ ext, gr_h I70 J71)
              refine gv_if_eq (t := 174) hD rfl rfl ⟨by omega, by omega⟩ (fun c353 => ?_) (fun c353 => ?_)
              · refine gv_run 1 true hD (pc' := 175) (lv' := [(0, .inr (.inr (some 0))), (1, .inl v1_33), (2, .inl v2_33), (3, .inl v3_33)]) (st' := [.inr (.inr (some 0))]) (h' := gr_h I70 J71) (C := (True ∧ True)) rfl ⟨trivial, trivial⟩ ?_
                obtain ⟨r354, h354, E354, P354⟩ := r_cost (ws0 := ws0) (tb := tb) hws htb ext I70 J71 hI70   (by omega) (by omega) (by omega) (by omega) (by omega)
                obtain ⟨I355, J356, rfl, hI355, g354, k354, ⟨z354, rfl, q354⟩⟩ := P354
                have FI355 := gr_frt FI70 g354 rfl rfl
                have FJ356 := gr_fjt FJ71 k354 rfl rfl
                have t357 := g354 0 69 rfl
                have t358 := g354 0 6 rfl
                have t359 := g354 0 59 rfl
                have t360 := g354 19 (Int.toNat v1_33) rfl
                have f361 := (show 0 ≤ I355 0 71 ∧ I355 0 71 ≤ 5 from (hI355 0 71).1)
                have f362 := (show 0 ≤ I355 0 72 ∧ I355 0 72 ≤ 1000 from (hI355 0 72).1)
                have f363 := (show 0 ≤ I355 0 73 ∧ I355 0 73 ≤ 1001 from (hI355 0 73).1)
                have f364 := (show 0 ≤ I355 0 69 ∧ I355 0 69 ≤ 1000 from (hI355 0 69).1)
                have f365 := (show (-1) ≤ I355 0 6 ∧ I355 0 6 ≤ 7 from (hI355 0 6).1)
                have f366 := (show 0 ≤ I355 0 59 ∧ I355 0 59 ≤ 2000 from (hI355 0 59).1)
                have KLN_I355 := gr_LN_fr KLN_I70 (fun k => g354 19 k rfl) (by omega) (by omega)
                have t367 := KLN_I355 (Int.toNat v1_33) (by omega)
                refine gv_callV hD rfl (As := []) (st := []) rfl (by decide) rfl rfl (gr_lV hws rfl) (Nat.le_of_ble_eq_true rfl) (gz_Ev_mono (d := 11) (by decide) E354) ?_
                show gv_X _ _ (178, [(0, .inr (.inr (some 0))), (1, .inl v1_33), (2, .inl v2_33), (3, .inl v3_33)], [.inl z354], gr_sh ++ ext, gr_h I355 J356)
                refine gv_if_ne (t := 183) hD rfl rfl ⟨by omega, by omega⟩ (fun c368 => ?_) (fun c368 => ?_)
                · refine gv_run 2 true hD (pc' := 186) (lv' := [(0, .inr (.inr (some 0))), (1, .inl v1_33), (2, .inl v2_33), (3, .inl v3_33)]) (st' := [.inl 59, .inr (.inr (some 0))]) (h' := gr_h I355 J356) (C := ((True ∧ True) ∧ True)) rfl ⟨⟨trivial, trivial⟩, trivial⟩ ?_
                  obtain ⟨r369, h369, E369, P369⟩ := r_sign (ws0 := ws0) (tb := tb) hws htb ext I355 J356 hI355 59 ⟨by omega, by omega⟩ (by omega)
                  obtain ⟨rfl, ⟨z369, rfl, q369⟩⟩ := P369
                  refine gv_callV hD rfl (As := [.inl 59]) (st := []) rfl (by decide) rfl rfl (gr_lV hws rfl) (Nat.le_of_ble_eq_true rfl) (gz_Ev_mono (d := 1) (by decide) E369) ?_
                  show gv_X _ _ (189, [(0, .inr (.inr (some 0))), (1, .inl v1_33), (2, .inl v2_33), (3, .inl v3_33)], [.inl z369], gr_sh ++ ext, gr_h I355 J356)
                  refine gv_if_ne (t := 198) hD rfl rfl ⟨by omega, by omega⟩ (fun c370 => ?_) (fun c370 => ?_)
                  · have f371 := (show 0 ≤ I355 0 118 ∧ I355 0 118 ≤ 6 from (hI355 0 118).1)
                    refine gv_run 3 true hD (pc' := 203) (lv' := [(0, .inr (.inr (some 0))), (1, .inl v1_33), (2, .inl v2_33), (3, .inl v3_33)]) (st' := [.inl 1, .inl (I355 0 118)]) (h' := gr_h I355 J356) (C := (((True ∧ True) ∧ True) ∧ True)) rfl ⟨⟨⟨trivial, trivial⟩, trivial⟩, trivial⟩ ?_
                    refine gv_icmp_ne (t := 261) hD rfl rfl ⟨⟨by omega, by omega⟩, ⟨by omega, by omega⟩⟩ (fun c372 => ?_) (fun c372 => ?_)
                    · exact L261 I355 J356 hI355 FI355 FJ356 KLN_I355 ⟨by omega, by omega⟩ ⟨by omega, by omega⟩ ⟨by omega, by omega⟩ (by omega) (by omega) (by omega) (by omega) (by omega) (by omega) (by omega) (by omega) (by omega) (by omega) (by omega)
                    · have f373 := (show (-4) ≤ I355 68 (Int.toNat 0) ∧ I355 68 (Int.toNat 0) ≤ 32015 from (hI355 68 (Int.toNat 0)).1)
                      refine gv_run 4 true hD (pc' := 212) (lv' := [(0, .inr (.inr (some 0))), (1, .inl v1_33), (2, .inl v2_33), (3, .inl v3_33)]) (st' := [.inl (I355 68 (Int.toNat 0))]) (h' := gr_h I355 J356) (C := ((((True ∧ True) ∧ True) ∧ True) ∧ (0 ≤ 0 ∧ 0 < ((6 : Nat) : Int)))) rfl ⟨⟨⟨⟨trivial, trivial⟩, trivial⟩, trivial⟩, ⟨by omega, by omega⟩⟩ ?_
                      refine gv_if_ge (t := 261) hD rfl rfl ⟨by omega, by omega⟩ (fun c374 => ?_) (fun c374 => ?_)
                      · exact L261 I355 J356 hI355 FI355 FJ356 KLN_I355 ⟨by omega, by omega⟩ ⟨by omega, by omega⟩ ⟨by omega, by omega⟩ (by omega) (by omega) (by omega) (by omega) (by omega) (by omega) (by omega) (by omega) (by omega) (by omega) (by omega)
                      · refine gv_run 7 true hD (pc' := 224) (lv' := [(0, .inr (.inr (some 0))), (1, .inl v1_33), (2, .inl v2_33), (3, .inl v3_33)]) (st' := [.inl ((4 * v3_33) - 1), .inr (.inr (some 7))]) (h' := gr_h I355 J356) (C := (((((((True ∧ True) ∧ True) ∧ True) ∧ True) ∧ True) ∧ True) ∧ True)) rfl ⟨⟨⟨⟨⟨⟨⟨trivial, trivial⟩, trivial⟩, trivial⟩, trivial⟩, trivial⟩, trivial⟩, trivial⟩ ?_
                        have f375 := (show (-4) ≤ I355 68 (Int.toNat 0) ∧ I355 68 (Int.toNat 0) ≤ 32015 from (hI355 68 (Int.toNat 0)).1)
                        refine gv_run 4 true hD (pc' := 230) (lv' := [(0, .inr (.inr (some 0))), (1, .inl v1_33), (2, .inl v2_33), (3, .inl v3_33)]) (st' := [.inl (I355 68 (Int.toNat 0)), .inl ((4 * v3_33) - 1), .inr (.inr (some 7))]) (h' := gr_h I355 J356) (C := ((((True ∧ True) ∧ True) ∧ True) ∧ (0 ≤ 0 ∧ 0 < ((6 : Nat) : Int)))) rfl ⟨⟨⟨⟨trivial, trivial⟩, trivial⟩, trivial⟩, ⟨by omega, by omega⟩⟩ ?_
                        have f376 := (show 0 ≤ I355 7 (Int.toNat ((((4 * v3_33) - 1) - (I355 68 (Int.toNat 0))))) ∧ I355 7 (Int.toNat ((((4 * v3_33) - 1) - (I355 68 (Int.toNat 0))))) ≤ 31 from (hI355 7 (Int.toNat ((((4 * v3_33) - 1) - (I355 68 (Int.toNat 0)))))).1)
                        refine gv_run 2 true hD (pc' := 232) (lv' := [(0, .inr (.inr (some 0))), (1, .inl v1_33), (2, .inl v2_33), (3, .inl v3_33)]) (st' := [.inl (I355 7 (Int.toNat ((((4 * v3_33) - 1) - (I355 68 (Int.toNat 0))))))]) (h' := gr_h I355 J356) (C := ((True ∧ True) ∧ (0 ≤ ((((4 * v3_33) - 1) - (I355 68 (Int.toNat 0)))) ∧ ((((4 * v3_33) - 1) - (I355 68 (Int.toNat 0)))) < ((384 : Nat) : Int)))) rfl ⟨⟨trivial, trivial⟩, ⟨by omega, by omega⟩⟩ ?_
                        have f377 := (show 0 ≤ I355 8 (Int.toNat v3_33) ∧ I355 8 (Int.toNat v3_33) ≤ 31 from (hI355 8 (Int.toNat v3_33)).1)
                        refine gv_run 4 true hD (pc' := 238) (lv' := [(0, .inr (.inr (some 0))), (1, .inl v1_33), (2, .inl v2_33), (3, .inl v3_33)]) (st' := [.inl (I355 8 (Int.toNat v3_33)), .inl (I355 7 (Int.toNat ((((4 * v3_33) - 1) - (I355 68 (Int.toNat 0))))))]) (h' := gr_h I355 J356) (C := ((((True ∧ True) ∧ True) ∧ True) ∧ (0 ≤ v3_33 ∧ v3_33 < ((96 : Nat) : Int)))) rfl ⟨⟨⟨⟨trivial, trivial⟩, trivial⟩, trivial⟩, ⟨by omega, by omega⟩⟩ ?_
                        refine gv_icmp_lt (t := 261) hD rfl rfl ⟨⟨by omega, by omega⟩, ⟨by omega, by omega⟩⟩ (fun c378 => ?_) (fun c378 => ?_)
                        · exact L261 I355 J356 hI355 FI355 FJ356 KLN_I355 ⟨by omega, by omega⟩ ⟨by omega, by omega⟩ ⟨by omega, by omega⟩ (by omega) (by omega) (by omega) (by omega) (by omega) (by omega) (by omega) (by omega) (by omega) (by omega) (by omega)
                        · refine gv_run 7 true hD (pc' := 253) (lv' := [(0, .inr (.inr (some 0))), (1, .inl v1_33), (2, .inl v2_33), (3, .inl v3_33)]) (st' := [.inr (.inr (some 68)), .inl (-1), .inr (.inr (some 74)), .inl 6, .inr (.inr (some 0))]) (h' := gr_h I355 J356) (C := (((((((True ∧ True) ∧ True) ∧ True) ∧ True) ∧ True) ∧ True) ∧ True)) rfl ⟨⟨⟨⟨⟨⟨⟨trivial, trivial⟩, trivial⟩, trivial⟩, trivial⟩, trivial⟩, trivial⟩, trivial⟩ ?_
                          have f379 := (show (-4) ≤ I355 68 (Int.toNat 0) ∧ I355 68 (Int.toNat 0) ≤ 32015 from (hI355 68 (Int.toNat 0)).1)
                          refine gv_run 2 true hD (pc' := 255) (lv' := [(0, .inr (.inr (some 0))), (1, .inl v1_33), (2, .inl v2_33), (3, .inl v3_33)]) (st' := [.inl (I355 68 (Int.toNat 0)), .inl (-1), .inr (.inr (some 74)), .inl 6, .inr (.inr (some 0))]) (h' := gr_h I355 J356) (C := ((True ∧ True) ∧ (0 ≤ 0 ∧ 0 < ((6 : Nat) : Int)))) rfl ⟨⟨trivial, trivial⟩, ⟨by omega, by omega⟩⟩ ?_
                          have f380 := (show (-1) ≤ I355 74 (Int.toNat (((-1) - (I355 68 (Int.toNat 0))))) ∧ I355 74 (Int.toNat (((-1) - (I355 68 (Int.toNat 0))))) ≤ 1000 from (hI355 74 (Int.toNat (((-1) - (I355 68 (Int.toNat 0)))))).1)
                          refine gv_run 2 true hD (pc' := 257) (lv' := [(0, .inr (.inr (some 0))), (1, .inl v1_33), (2, .inl v2_33), (3, .inl v3_33)]) (st' := [.inl (I355 74 (Int.toNat (((-1) - (I355 68 (Int.toNat 0)))))), .inl 6, .inr (.inr (some 0))]) (h' := gr_h I355 J356) (C := ((True ∧ True) ∧ (0 ≤ (((-1) - (I355 68 (Int.toNat 0)))) ∧ (((-1) - (I355 68 (Int.toNat 0)))) < ((4 : Nat) : Int)))) rfl ⟨⟨trivial, trivial⟩, ⟨by omega, by omega⟩⟩ ?_
                          obtain ⟨r381, h381, E381, P381⟩ := r_no (ws0 := ws0) (tb := tb) hws htb ext I355 J356 hI355 6 ((I355 74 (Int.toNat (((-1) - (I355 68 (Int.toNat 0))))))) ⟨by omega, by omega⟩ ⟨by omega, by omega⟩ 
                          obtain ⟨I382, J383, rfl, hI382, g381, k381, ⟨z381, rfl, q381⟩⟩ := P381
                          have FI382 := gr_frt FI355 g381 rfl rfl
                          have FJ383 := gr_fjt FJ356 k381 rfl rfl
                          have t384 := g381 0 71 rfl
                          have t385 := g381 0 72 rfl
                          have t386 := g381 0 73 rfl
                          have t387 := g381 0 69 rfl
                          have t388 := g381 0 6 rfl
                          have t389 := g381 0 59 rfl
                          have t390 := g381 19 (Int.toNat v1_33) rfl
                          have f391 := (show 0 ≤ I382 0 71 ∧ I382 0 71 ≤ 5 from (hI382 0 71).1)
                          have f392 := (show 0 ≤ I382 0 72 ∧ I382 0 72 ≤ 1000 from (hI382 0 72).1)
                          have f393 := (show 0 ≤ I382 0 73 ∧ I382 0 73 ≤ 1001 from (hI382 0 73).1)
                          have f394 := (show 0 ≤ I382 0 69 ∧ I382 0 69 ≤ 1000 from (hI382 0 69).1)
                          have f395 := (show (-1) ≤ I382 0 6 ∧ I382 0 6 ≤ 7 from (hI382 0 6).1)
                          have f396 := (show 0 ≤ I382 0 59 ∧ I382 0 59 ≤ 2000 from (hI382 0 59).1)
                          have KLN_I382 := gr_LN_fr KLN_I355 (fun k => g381 19 k rfl) (by omega) (by omega)
                          have t397 := KLN_I382 (Int.toNat v1_33) (by omega)
                          refine gv_callV hD rfl (As := [.inl 6, .inl (I355 74 (Int.toNat (((-1) - (I355 68 (Int.toNat 0))))))]) (st := []) rfl (by decide) rfl rfl (gr_lV hws rfl) (Nat.le_of_ble_eq_true rfl) (gz_Ev_mono (d := 1) (by decide) E381) ?_
                          show gv_X _ _ (260, [(0, .inr (.inr (some 0))), (1, .inl v1_33), (2, .inl v2_33), (3, .inl v3_33)], [.inl z381], gr_sh ++ ext, gr_h I382 J383)
                          exact gv_zret hD rfl (by omega) ⟨I382, J383, rfl, hI382, FI382, FJ383, KLN_I382, ⟨_, rfl, by omega, by omega, by omega, by omega, by omega, by omega, by omega, by omega, by omega, by omega, by omega⟩⟩
                  · refine gv_run 2 true hD (pc' := 194) (lv' := [(0, .inr (.inr (some 0))), (1, .inl v1_33), (2, .inl v2_33), (3, .inl v3_33)]) (st' := [.inl 1, .inr (.inr (some 0))]) (h' := gr_h I355 J356) (C := ((True ∧ True) ∧ True)) rfl ⟨⟨trivial, trivial⟩, trivial⟩ ?_
                    obtain ⟨r398, h398, E398, P398⟩ := r_no_ (ws0 := ws0) (tb := tb) hws htb ext I355 J356 hI355 1 ⟨by omega, by omega⟩ 
                    obtain ⟨I399, J400, rfl, hI399, g398, k398, ⟨z398, rfl, q398⟩⟩ := P398
                    have FI399 := gr_frt FI355 g398 rfl rfl
                    have FJ400 := gr_fjt FJ356 k398 rfl rfl
                    have t401 := g398 0 71 rfl
                    have t402 := g398 0 72 rfl
                    have t403 := g398 0 73 rfl
                    have t404 := g398 0 69 rfl
                    have t405 := g398 0 6 rfl
                    have t406 := g398 0 59 rfl
                    have t407 := g398 19 (Int.toNat v1_33) rfl
                    have f408 := (show 0 ≤ I399 0 71 ∧ I399 0 71 ≤ 5 from (hI399 0 71).1)
                    have f409 := (show 0 ≤ I399 0 72 ∧ I399 0 72 ≤ 1000 from (hI399 0 72).1)
                    have f410 := (show 0 ≤ I399 0 73 ∧ I399 0 73 ≤ 1001 from (hI399 0 73).1)
                    have f411 := (show 0 ≤ I399 0 69 ∧ I399 0 69 ≤ 1000 from (hI399 0 69).1)
                    have f412 := (show (-1) ≤ I399 0 6 ∧ I399 0 6 ≤ 7 from (hI399 0 6).1)
                    have f413 := (show 0 ≤ I399 0 59 ∧ I399 0 59 ≤ 2000 from (hI399 0 59).1)
                    have KLN_I399 := gr_LN_fr KLN_I355 (fun k => g398 19 k rfl) (by omega) (by omega)
                    have t414 := KLN_I399 (Int.toNat v1_33) (by omega)
                    refine gv_callV hD rfl (As := [.inl 1]) (st := []) rfl (by decide) rfl rfl (gr_lV hws rfl) (Nat.le_of_ble_eq_true rfl) (gz_Ev_mono (d := 2) (by decide) E398) ?_
                    show gv_X _ _ (197, [(0, .inr (.inr (some 0))), (1, .inl v1_33), (2, .inl v2_33), (3, .inl v3_33)], [.inl z398], gr_sh ++ ext, gr_h I399 J400)
                    exact gv_zret hD rfl (by omega) ⟨I399, J400, rfl, hI399, FI399, FJ400, KLN_I399, ⟨_, rfl, by omega, by omega, by omega, by omega, by omega, by omega, by omega, by omega, by omega, by omega, by omega⟩⟩
                · refine gv_run 1 true hD (pc' := 182) (lv' := [(0, .inr (.inr (some 0))), (1, .inl v1_33), (2, .inl v2_33), (3, .inl v3_33)]) (st' := [.inl 0]) (h' := gr_h I355 J356) (C := (True ∧ True)) rfl ⟨trivial, trivial⟩ ?_
                  exact gv_zret hD rfl (by omega) ⟨I355, J356, rfl, hI355, FI355, FJ356, KLN_I355, ⟨_, rfl, by omega, by omega, by omega, by omega, by omega, by omega, by omega, by omega, by omega, by omega, by omega⟩⟩
              · refine gv_run 1 true hD (pc' := 161) (lv' := [(0, .inr (.inr (some 0))), (1, .inl v1_33), (2, .inl v2_33), (3, .inl v3_33)]) (st' := [.inr (.inr (some 0))]) (h' := gr_h I70 J71) (C := (True ∧ True)) rfl ⟨trivial, trivial⟩ ?_
                obtain ⟨r415, h415, E415, P415⟩ := r_next (ws0 := ws0) (tb := tb) hws htb ext I70 J71 hI70   (by omega)
                obtain ⟨I416, J417, rfl, hI416, g415, k415, ⟨rfl, q415⟩⟩ := P415
                have FI416 := gr_frt FI70 g415 rfl rfl
                have FJ417 := gr_fjt FJ71 k415 rfl rfl
                have t418 := g415 0 69 rfl
                have t419 := g415 0 6 rfl
                have t420 := g415 0 59 rfl
                have t421 := g415 19 (Int.toNat v1_33) rfl
                have f422 := (show 0 ≤ I416 0 71 ∧ I416 0 71 ≤ 5 from (hI416 0 71).1)
                have f423 := (show 0 ≤ I416 0 72 ∧ I416 0 72 ≤ 1000 from (hI416 0 72).1)
                have f424 := (show 0 ≤ I416 0 73 ∧ I416 0 73 ≤ 1001 from (hI416 0 73).1)
                have f425 := (show 0 ≤ I416 0 69 ∧ I416 0 69 ≤ 1000 from (hI416 0 69).1)
                have f426 := (show (-1) ≤ I416 0 6 ∧ I416 0 6 ≤ 7 from (hI416 0 6).1)
                have f427 := (show 0 ≤ I416 0 59 ∧ I416 0 59 ≤ 2000 from (hI416 0 59).1)
                have KLN_I416 := gr_LN_fr KLN_I70 (fun k => g415 19 k rfl) (by omega) (by omega)
                have t428 := KLN_I416 (Int.toNat v1_33) (by omega)
                refine gv_callV hD rfl (As := []) (st := []) rfl (by decide) rfl rfl (gr_lV hws rfl) (Nat.le_of_ble_eq_true rfl) (gz_Ev_mono (d := 10) (by decide) E415) ?_
                show gv_X _ _ (164, [(0, .inr (.inr (some 0))), (1, .inl v1_33), (2, .inl v2_33), (3, .inl v3_33)], [], gr_sh ++ ext, gr_h I416 J417)
                refine gv_run 2 true hD (pc' := 166) (lv' := [(0, .inr (.inr (some 0))), (1, .inl v1_33), (2, .inl v2_33), (3, .inl v3_33)]) (st' := [.inl v3_33, .inr (.inr (some 0))]) (h' := gr_h I416 J417) (C := ((True ∧ True) ∧ True)) rfl ⟨⟨trivial, trivial⟩, trivial⟩ ?_
                obtain ⟨r429, h429, E429, P429⟩ := r_said (ws0 := ws0) (tb := tb) hws htb ext I416 J417 hI416 v3_33 ⟨by omega, by omega⟩ (by omega) (by omega) (by omega) (by omega) (by omega) (by omega)
                obtain ⟨I430, J431, rfl, hI430, g429, k429, ⟨z429, rfl, q429⟩⟩ := P429
                have FI430 := gr_frt FI416 g429 rfl rfl
                have FJ431 := gr_fjt FJ417 k429 rfl rfl
                have t432 := g429 0 69 rfl
                have t433 := g429 0 6 rfl
                have t434 := g429 0 59 rfl
                have t435 := g429 19 (Int.toNat v1_33) rfl
                have f436 := (show 0 ≤ I430 0 71 ∧ I430 0 71 ≤ 5 from (hI430 0 71).1)
                have f437 := (show 0 ≤ I430 0 72 ∧ I430 0 72 ≤ 1000 from (hI430 0 72).1)
                have f438 := (show 0 ≤ I430 0 73 ∧ I430 0 73 ≤ 1001 from (hI430 0 73).1)
                have f439 := (show 0 ≤ I430 0 69 ∧ I430 0 69 ≤ 1000 from (hI430 0 69).1)
                have f440 := (show (-1) ≤ I430 0 6 ∧ I430 0 6 ≤ 7 from (hI430 0 6).1)
                have f441 := (show 0 ≤ I430 0 59 ∧ I430 0 59 ≤ 2000 from (hI430 0 59).1)
                have KLN_I430 := gr_LN_fr KLN_I416 (fun k => g429 19 k rfl) (by omega) (by omega)
                have t442 := KLN_I430 (Int.toNat v1_33) (by omega)
                refine gv_callV hD rfl (As := [.inl v3_33]) (st := []) rfl (by decide) rfl rfl (gr_lV hws rfl) (Nat.le_of_ble_eq_true rfl) (gz_Ev_mono (d := 12) (by decide) E429) ?_
                show gv_X _ _ (169, [(0, .inr (.inr (some 0))), (1, .inl v1_33), (2, .inl v2_33), (3, .inl v3_33)], [.inl z429], gr_sh ++ ext, gr_h I430 J431)
                refine gv_if_ne (t := 151) hD rfl rfl ⟨by omega, by omega⟩ (fun c443 => ?_) (fun c443 => ?_)
                · exact ih151 I430 J431 (by omega) hI430 FI430 FJ431 KLN_I430 ⟨by omega, by omega⟩ ⟨by omega, by omega⟩ ⟨by omega, by omega⟩ (by omega) (by omega) (by omega) (by omega) (by omega) (by omega) (by omega) (by omega) (by omega) (by omega) (by omega)
                · refine gv_run 1 true hD (pc' := 173) (lv' := [(0, .inr (.inr (some 0))), (1, .inl v1_33), (2, .inl v2_33), (3, .inl v3_33)]) (st' := [.inl 0]) (h' := gr_h I430 J431) (C := (True ∧ True)) rfl ⟨trivial, trivial⟩ ?_
                  exact gv_zret hD rfl (by omega) ⟨I430, J431, rfl, hI430, FI430, FJ431, KLN_I430, ⟨_, rfl, by omega, by omega, by omega, by omega, by omega, by omega, by omega, by omega, by omega, by omega, by omega⟩⟩
          have f444 := (show 0 ≤ I40 0 71 ∧ I40 0 71 ≤ 5 from (hI40 0 71).1)
          refine gv_run 3 true hD (pc' := 130) (lv' := [(0, .inr (.inr (some 0))), (1, .inl v1_33), (2, .inl v2_33), (3, .inl v3_33)]) (st' := [.inl 3, .inl (I40 0 71)]) (h' := gr_h I40 J41) (C := (((True ∧ True) ∧ True) ∧ True)) rfl ⟨⟨⟨trivial, trivial⟩, trivial⟩, trivial⟩ ?_
          refine gv_icmp_eq (t := 141) hD rfl rfl ⟨⟨by omega, by omega⟩, ⟨by omega, by omega⟩⟩ (fun c445 => ?_) (fun c445 => ?_)
          · exact L141 ⟨by omega, by omega⟩ ⟨by omega, by omega⟩ ⟨by omega, by omega⟩ (by omega) (by omega) (by omega) (by omega) (by omega) (by omega) (by omega) (by omega) (by omega) (by omega) (by omega) (by omega)
          · have f446 := (show 0 ≤ I40 0 71 ∧ I40 0 71 ≤ 5 from (hI40 0 71).1)
            refine gv_run 3 true hD (pc' := 138) (lv' := [(0, .inr (.inr (some 0))), (1, .inl v1_33), (2, .inl v2_33), (3, .inl v3_33)]) (st' := [.inl 2, .inl (I40 0 71)]) (h' := gr_h I40 J41) (C := (((True ∧ True) ∧ True) ∧ True)) rfl ⟨⟨⟨trivial, trivial⟩, trivial⟩, trivial⟩ ?_
            refine gv_icmp_ne (t := 151) hD rfl rfl ⟨⟨by omega, by omega⟩, ⟨by omega, by omega⟩⟩ (fun c447 => ?_) (fun c447 => ?_)
            · exact L151 _ I40 J41 (Nat.lt_succ_self _) hI40 FI40 FJ41 KLN_I40 ⟨by omega, by omega⟩ ⟨by omega, by omega⟩ ⟨by omega, by omega⟩ (by omega) (by omega) (by omega) (by omega) (by omega) (by omega) (by omega) (by omega) (by omega) (by omega) (by omega)
            · exact L141 ⟨by omega, by omega⟩ ⟨by omega, by omega⟩ ⟨by omega, by omega⟩ (by omega) (by omega) (by omega) (by omega) (by omega) (by omega) (by omega) (by omega) (by omega) (by omega) (by omega) (by omega)
      refine gv_run 2 true hD (pc' := 86) (lv' := [(0, .inr (.inr (some 0))), (1, .inl v1_33), (2, .inl v2_33), (3, .inl v3_33), (4, .inl v4_33)]) (st' := [.inl 4, .inl v4_33]) (h' := gr_h I31 J32) (C := ((True ∧ True) ∧ True)) rfl ⟨⟨trivial, trivial⟩, trivial⟩ ?_
      refine gv_icmp_ge (t := 103) hD rfl rfl ⟨⟨by omega, by omega⟩, ⟨by omega, by omega⟩⟩ (fun c448 => ?_) (fun c448 => ?_)
      · have f449 := (show 0 ≤ I31 0 71 ∧ I31 0 71 ≤ 5 from (hI31 0 71).1)
        refine gv_run 3 true hD (pc' := 108) (lv' := [(0, .inr (.inr (some 0))), (1, .inl v1_33), (2, .inl v2_33), (3, .inl v3_33), (4, .inl v4_33)]) (st' := [.inl 3, .inl (I31 0 71)]) (h' := gr_h I31 J32) (C := (((True ∧ True) ∧ True) ∧ True)) rfl ⟨⟨⟨trivial, trivial⟩, trivial⟩, trivial⟩ ?_
        refine gv_icmp_eq (t := 125) hD rfl rfl ⟨⟨by omega, by omega⟩, ⟨by omega, by omega⟩⟩ (fun c450 => ?_) (fun c450 => ?_)
        · refine gv_pick [0, 1, 2, 3] rfl ?_
          exact L125 _ I31 J32 (Nat.lt_succ_self _) hI31 FI31 FJ32 KLN_I31 ⟨by omega, by omega⟩ ⟨by omega, by omega⟩ ⟨by omega, by omega⟩ (by omega) (by omega) (by omega) (by omega) (by omega) (by omega) (by omega) (by omega) (by omega) (by omega) (by omega)
        · have f451 := (show 0 ≤ I31 0 71 ∧ I31 0 71 ≤ 5 from (hI31 0 71).1)
          refine gv_run 3 true hD (pc' := 116) (lv' := [(0, .inr (.inr (some 0))), (1, .inl v1_33), (2, .inl v2_33), (3, .inl v3_33), (4, .inl v4_33)]) (st' := [.inl 2, .inl (I31 0 71)]) (h' := gr_h I31 J32) (C := (((True ∧ True) ∧ True) ∧ True)) rfl ⟨⟨⟨trivial, trivial⟩, trivial⟩, trivial⟩ ?_
          refine gv_icmp_eq (t := 125) hD rfl rfl ⟨⟨by omega, by omega⟩, ⟨by omega, by omega⟩⟩ (fun c452 => ?_) (fun c452 => ?_)
          · refine gv_pick [0, 1, 2, 3] rfl ?_
            exact L125 _ I31 J32 (Nat.lt_succ_self _) hI31 FI31 FJ32 KLN_I31 ⟨by omega, by omega⟩ ⟨by omega, by omega⟩ ⟨by omega, by omega⟩ (by omega) (by omega) (by omega) (by omega) (by omega) (by omega) (by omega) (by omega) (by omega) (by omega) (by omega)
          · refine gv_run 2 true hD (pc' := 121) (lv' := [(0, .inr (.inr (some 0))), (1, .inl v1_33), (2, .inl v2_33), (3, .inl v3_33), (4, .inl v4_33)]) (st' := [.inl 1, .inr (.inr (some 0))]) (h' := gr_h I31 J32) (C := ((True ∧ True) ∧ True)) rfl ⟨⟨trivial, trivial⟩, trivial⟩ ?_
            obtain ⟨r453, h453, E453, P453⟩ := r_no_ (ws0 := ws0) (tb := tb) hws htb ext I31 J32 hI31 1 ⟨by omega, by omega⟩ 
            obtain ⟨I454, J455, rfl, hI454, g453, k453, ⟨z453, rfl, q453⟩⟩ := P453
            have FI454 := gr_frt FI31 g453 rfl rfl
            have FJ455 := gr_fjt FJ32 k453 rfl rfl
            have t456 := g453 0 71 rfl
            have t457 := g453 0 72 rfl
            have t458 := g453 0 73 rfl
            have t459 := g453 0 69 rfl
            have t460 := g453 0 6 rfl
            have t461 := g453 0 59 rfl
            have t462 := g453 19 (Int.toNat v1_33) rfl
            have f463 := (show 0 ≤ I454 0 71 ∧ I454 0 71 ≤ 5 from (hI454 0 71).1)
            have f464 := (show 0 ≤ I454 0 72 ∧ I454 0 72 ≤ 1000 from (hI454 0 72).1)
            have f465 := (show 0 ≤ I454 0 73 ∧ I454 0 73 ≤ 1001 from (hI454 0 73).1)
            have f466 := (show 0 ≤ I454 0 69 ∧ I454 0 69 ≤ 1000 from (hI454 0 69).1)
            have f467 := (show (-1) ≤ I454 0 6 ∧ I454 0 6 ≤ 7 from (hI454 0 6).1)
            have f468 := (show 0 ≤ I454 0 59 ∧ I454 0 59 ≤ 2000 from (hI454 0 59).1)
            have KLN_I454 := gr_LN_fr KLN_I31 (fun k => g453 19 k rfl) (by omega) (by omega)
            have t469 := KLN_I454 (Int.toNat v1_33) (by omega)
            refine gv_callV hD rfl (As := [.inl 1]) (st := []) rfl (by decide) rfl rfl (gr_lV hws rfl) (Nat.le_of_ble_eq_true rfl) (gz_Ev_mono (d := 2) (by decide) E453) ?_
            show gv_X _ _ (124, [(0, .inr (.inr (some 0))), (1, .inl v1_33), (2, .inl v2_33), (3, .inl v3_33), (4, .inl v4_33)], [.inl z453], gr_sh ++ ext, gr_h I454 J455)
            exact gv_zret hD rfl (by omega) ⟨I454, J455, rfl, hI454, FI454, FJ455, KLN_I454, ⟨_, rfl, by omega, by omega, by omega, by omega, by omega, by omega, by omega, by omega, by omega, by omega, by omega⟩⟩
      · refine gv_run 4 true hD (pc' := 96) (lv' := [(0, .inr (.inr (some 0))), (1, .inl v1_33), (2, .inl v2_33), (3, .inl v3_33), (4, .inl v4_33)]) (st' := [.inl (-1), .inl v4_33, .inr (.inr (some 74))]) (h' := gr_h I31 J32) (C := ((((True ∧ True) ∧ True) ∧ True) ∧ True)) rfl ⟨⟨⟨⟨trivial, trivial⟩, trivial⟩, trivial⟩, trivial⟩ ?_
        refine gv_run 1 true hD (pc' := 97) (lv' := [(0, .inr (.inr (some 0))), (1, .inl v1_33), (2, .inl v2_33), (3, .inl v3_33), (4, .inl v4_33)]) (st' := []) (h' := gz_up (gr_h I31 J32) 74 (Int.toNat v4_33) (.inl (-1))) (C := (True ∧ (0 ≤ v4_33 ∧ v4_33 < ((4 : Nat) : Int)))) rfl ⟨trivial, ⟨by omega, by omega⟩⟩ ?_
        refine gr_st hI31 FI31 rfl rfl ⟨⟨by show (-1) ≤ _; omega, by show _ ≤ 1000; omega⟩, trivial⟩ (fun I470 hI470 FI470 q471 p471 => ?_)
        have t472 := p471 0 71 (fun q => absurd q.1 (by decide))
        have t473 := p471 0 72 (fun q => absurd q.1 (by decide))
        have t474 := p471 0 73 (fun q => absurd q.1 (by decide))
        have t475 := p471 0 69 (fun q => absurd q.1 (by decide))
        have t476 := p471 0 6 (fun q => absurd q.1 (by decide))
        have t477 := p471 0 59 (fun q => absurd q.1 (by decide))
        have t478 := p471 19 (Int.toNat v1_33) (fun q => absurd q.1 (by decide))
        have f479 := (show 0 ≤ I470 0 71 ∧ I470 0 71 ≤ 5 from (hI470 0 71).1)
        have f480 := (show 0 ≤ I470 0 72 ∧ I470 0 72 ≤ 1000 from (hI470 0 72).1)
        have f481 := (show 0 ≤ I470 0 73 ∧ I470 0 73 ≤ 1001 from (hI470 0 73).1)
        have f482 := (show 0 ≤ I470 0 69 ∧ I470 0 69 ≤ 1000 from (hI470 0 69).1)
        have f483 := (show (-1) ≤ I470 0 6 ∧ I470 0 6 ≤ 7 from (hI470 0 6).1)
        have f484 := (show 0 ≤ I470 0 59 ∧ I470 0 59 ≤ 2000 from (hI470 0 59).1)
        have KLN_I470 := gr_LN_fr KLN_I31 (fun k => p471 19 k (fun q => absurd q.1 (by decide))) (by omega) (by omega)
        have t485 := KLN_I470 (Int.toNat v1_33) (by omega)
        refine gv_run 2 true hD (pc' := 83) (lv' := [(4, .inl (v4_33 + 1)), (0, .inr (.inr (some 0))), (1, .inl v1_33), (2, .inl v2_33), (3, .inl v3_33)]) (st' := []) (h' := gr_h I470 J32) (C := ((True ∧ True) ∧ True)) rfl ⟨⟨trivial, trivial⟩, trivial⟩ ?_
        refine gv_pick [1, 2, 3, 4, 0] rfl ?_
        exact ih83 I470 J32 v1_33 v2_33 v3_33 (v4_33 + 1) (by omega) hI470 FI470 FJ32 KLN_I470 ⟨by omega, by omega⟩ ⟨by omega, by omega⟩ ⟨by omega, by omega⟩ ⟨by omega, by omega⟩ (by omega) (by omega) (by omega) (by omega) (by omega) (by omega) (by omega) (by omega) (by omega) (by omega) (by omega)
  have f486 := (show (-1) ≤ I 0 6 ∧ I 0 6 ≤ 7 from (hI 0 6).1)
  refine gv_run 4 true hD (pc' := 6) (lv' := [(1, .inl (I 0 6)), (0, .inr (.inr (some 0)))]) (st' := [.inr (.inr (some 0))]) (h' := gr_h I J) (C := ((((True ∧ True) ∧ True) ∧ True) ∧ True)) rfl ⟨⟨⟨⟨trivial, trivial⟩, trivial⟩, trivial⟩, trivial⟩ ?_
  obtain ⟨r487, h487, E487, P487⟩ := r_name (ws0 := ws0) (tb := tb) hws htb ext I J hI   
  obtain ⟨I488, J489, rfl, hI488, g487, k487, ⟨z487, rfl, q487⟩⟩ := P487
  have FI488 := gr_frt FI g487 rfl rfl
  have FJ489 := gr_fjt FJ k487 rfl rfl
  have t490 := g487 0 71 rfl
  have t491 := g487 0 72 rfl
  have t492 := g487 0 73 rfl
  have t493 := g487 0 69 rfl
  have t494 := g487 0 6 rfl
  have t495 := g487 0 59 rfl
  have t496 := g487 19 (Int.toNat ((I 0 6))) rfl
  have f497 := (show 0 ≤ I488 0 71 ∧ I488 0 71 ≤ 5 from (hI488 0 71).1)
  have f498 := (show 0 ≤ I488 0 72 ∧ I488 0 72 ≤ 1000 from (hI488 0 72).1)
  have f499 := (show 0 ≤ I488 0 73 ∧ I488 0 73 ≤ 1001 from (hI488 0 73).1)
  have f500 := (show 0 ≤ I488 0 69 ∧ I488 0 69 ≤ 1000 from (hI488 0 69).1)
  have f501 := (show (-1) ≤ I488 0 6 ∧ I488 0 6 ≤ 7 from (hI488 0 6).1)
  have f502 := (show 0 ≤ I488 0 59 ∧ I488 0 59 ≤ 2000 from (hI488 0 59).1)
  have KLN_I488 := gr_LN_fr KLN_I (fun k => g487 19 k rfl) (by omega) (by omega)
  have t503 := KLN_I488 (Int.toNat ((I 0 6))) (by omega)
  refine gv_callV hD rfl (As := []) (st := []) rfl (by decide) rfl rfl (gr_lV hws rfl) (Nat.le_of_ble_eq_true rfl) (gz_Ev_mono (d := 3) (by decide) E487) ?_
  show gv_X _ _ (9, [(1, .inl (I 0 6)), (0, .inr (.inr (some 0)))], [.inl z487], gr_sh ++ ext, gr_h I488 J489)
  refine gv_if_ne (t := 14) hD rfl rfl ⟨by omega, by omega⟩ (fun c504 => ?_) (fun c504 => ?_)
  · have f505 := (show 0 ≤ I488 0 72 ∧ I488 0 72 ≤ 1000 from (hI488 0 72).1)
    refine gv_run 7 true hD (pc' := 25) (lv' := [(2, .inl (I488 0 72)), (1, .inl (I 0 6)), (0, .inr (.inr (some 0)))]) (st' := [.inr (.inr (some 0)), .inl 0, .inr (.inr (some 3))]) (h' := gr_h I488 J489) (C := (((((((True ∧ True) ∧ True) ∧ True) ∧ True) ∧ True) ∧ True) ∧ True)) rfl ⟨⟨⟨⟨⟨⟨⟨trivial, trivial⟩, trivial⟩, trivial⟩, trivial⟩, trivial⟩, trivial⟩, trivial⟩ ?_
    have f506 := (show 0 ≤ I488 0 3 ∧ I488 0 3 ≤ 96 from (hI488 0 3).1)
    refine gv_run 3 true hD (pc' := 32) (lv' := [(2, .inl (I488 0 72)), (1, .inl (I 0 6)), (0, .inr (.inr (some 0)))]) (st' := [.inr (.inl (J489 0 75)), .inl (I488 0 3), .inl 0, .inr (.inr (some 3))]) (h' := gr_h I488 J489) (C := (((True ∧ True) ∧ True) ∧ True)) rfl ⟨⟨⟨trivial, trivial⟩, trivial⟩, trivial⟩ ?_
    obtain ⟨r507, h507, E507, P507⟩ := r_find_3 (ws0 := ws0) (tb := tb) hws htb ext I488 J489 hI488 0 (I488 0 3) (J489 0 75) ⟨by omega, by omega⟩ ⟨by omega, by omega⟩ (by omega)
    obtain ⟨rfl, ⟨z507, rfl, q507⟩⟩ := P507
    refine gv_callS hD rfl (As := [.inr (.inr (some 3)), .inl 0, .inl (I488 0 3), .inr (.inl (J489 0 75))]) (st := []) rfl (gr_lS hws rfl) (Nat.le_of_ble_eq_true rfl) (gz_Ev_mono (d := 1) (by decide) E507) ?_
    show gv_X _ _ (35, [(2, .inl (I488 0 72)), (1, .inl (I 0 6)), (0, .inr (.inr (some 0)))], [.inl z507], gr_sh ++ ext, gr_h I488 J489)
    refine gv_run 2 true hD (pc' := 37) (lv' := [(3, .inl z507), (2, .inl (I488 0 72)), (1, .inl (I 0 6)), (0, .inr (.inr (some 0)))]) (st' := [.inl z507]) (h' := gr_h I488 J489) (C := ((True ∧ True) ∧ True)) rfl ⟨⟨trivial, trivial⟩, trivial⟩ ?_
    refine gv_if_lt (t := 49) hD rfl rfl ⟨by omega, by omega⟩ (fun c508 => ?_) (fun c508 => ?_)
    · refine gv_pick [3] rfl ?_
      exact L49 I488 J489 hI488 FI488 FJ489 KLN_I488 (by omega) (by omega) (by omega) (by omega) (by omega) (by omega) (by omega) (by omega) (by omega) (by omega)
    · have f509 := (show 0 ≤ I488 6 (Int.toNat z507) ∧ I488 6 (Int.toNat z507) ≤ 4 from (hI488 6 (Int.toNat z507)).1)
      refine gv_run 4 true hD (pc' := 46) (lv' := [(3, .inl z507), (2, .inl (I488 0 72)), (1, .inl (I 0 6)), (0, .inr (.inr (some 0)))]) (st' := [.inl (I488 6 (Int.toNat z507))]) (h' := gr_h I488 J489) (C := ((((True ∧ True) ∧ True) ∧ True) ∧ (0 ≤ z507 ∧ z507 < ((96 : Nat) : Int)))) rfl ⟨⟨⟨⟨trivial, trivial⟩, trivial⟩, trivial⟩, ⟨by omega, by omega⟩⟩ ?_
      refine gv_if_ne (t := 55) hD rfl rfl ⟨by omega, by omega⟩ (fun c510 => ?_) (fun c510 => ?_)
      · refine gv_run 1 true hD (pc' := 56) (lv' := [(3, .inl z507), (2, .inl (I488 0 72)), (1, .inl (I 0 6)), (0, .inr (.inr (some 0)))]) (st' := [.inr (.inr (some 0))]) (h' := gr_h I488 J489) (C := (True ∧ True)) rfl ⟨trivial, trivial⟩ ?_
        obtain ⟨r511, h511, E511, P511⟩ := r_next (ws0 := ws0) (tb := tb) hws htb ext I488 J489 hI488   (by omega)
        obtain ⟨I512, J513, rfl, hI512, g511, k511, ⟨rfl, q511⟩⟩ := P511
        have FI512 := gr_frt FI488 g511 rfl rfl
        have FJ513 := gr_fjt FJ489 k511 rfl rfl
        have t514 := g511 0 69 rfl
        have t515 := g511 0 6 rfl
        have t516 := g511 0 59 rfl
        have t517 := g511 19 (Int.toNat ((I 0 6))) rfl
        have f518 := (show 0 ≤ I512 0 71 ∧ I512 0 71 ≤ 5 from (hI512 0 71).1)
        have f519 := (show 0 ≤ I512 0 72 ∧ I512 0 72 ≤ 1000 from (hI512 0 72).1)
        have f520 := (show 0 ≤ I512 0 73 ∧ I512 0 73 ≤ 1001 from (hI512 0 73).1)
        have f521 := (show 0 ≤ I512 0 69 ∧ I512 0 69 ≤ 1000 from (hI512 0 69).1)
        have f522 := (show (-1) ≤ I512 0 6 ∧ I512 0 6 ≤ 7 from (hI512 0 6).1)
        have f523 := (show 0 ≤ I512 0 59 ∧ I512 0 59 ≤ 2000 from (hI512 0 59).1)
        have KLN_I512 := gr_LN_fr KLN_I488 (fun k => g511 19 k rfl) (by omega) (by omega)
        have t524 := KLN_I512 (Int.toNat ((I 0 6))) (by omega)
        refine gv_callV hD rfl (As := []) (st := []) rfl (by decide) rfl rfl (gr_lV hws rfl) (Nat.le_of_ble_eq_true rfl) (gz_Ev_mono (d := 10) (by decide) E511) ?_
        show gv_X _ _ (59, [(3, .inl z507), (2, .inl (I488 0 72)), (1, .inl (I 0 6)), (0, .inr (.inr (some 0)))], [], gr_sh ++ ext, gr_h I512 J513)
        refine gv_run 2 true hD (pc' := 62) (lv' := [(3, .inl z507), (2, .inl (I488 0 72)), (1, .inl (I 0 6)), (0, .inr (.inr (some 0)))]) (st' := [.inl 61, .inr (.inr (some 0))]) (h' := gr_h I512 J513) (C := ((True ∧ True) ∧ True)) rfl ⟨⟨trivial, trivial⟩, trivial⟩ ?_
        obtain ⟨r525, h525, E525, P525⟩ := r_need (ws0 := ws0) (tb := tb) hws htb ext I512 J513 hI512 61 ⟨by omega, by omega⟩ (by omega) (by omega) (by omega) (by omega) (by omega)
        obtain ⟨I526, J527, rfl, hI526, g525, k525, ⟨z525, rfl, q525⟩⟩ := P525
        have FI526 := gr_frt FI512 g525 rfl rfl
        have FJ527 := gr_fjt FJ513 k525 rfl rfl
        have t528 := g525 0 69 rfl
        have t529 := g525 0 6 rfl
        have t530 := g525 0 59 rfl
        have t531 := g525 19 (Int.toNat ((I 0 6))) rfl
        have f532 := (show 0 ≤ I526 0 71 ∧ I526 0 71 ≤ 5 from (hI526 0 71).1)
        have f533 := (show 0 ≤ I526 0 72 ∧ I526 0 72 ≤ 1000 from (hI526 0 72).1)
        have f534 := (show 0 ≤ I526 0 73 ∧ I526 0 73 ≤ 1001 from (hI526 0 73).1)
        have f535 := (show 0 ≤ I526 0 69 ∧ I526 0 69 ≤ 1000 from (hI526 0 69).1)
        have f536 := (show (-1) ≤ I526 0 6 ∧ I526 0 6 ≤ 7 from (hI526 0 6).1)
        have f537 := (show 0 ≤ I526 0 59 ∧ I526 0 59 ≤ 2000 from (hI526 0 59).1)
        have KLN_I526 := gr_LN_fr KLN_I512 (fun k => g525 19 k rfl) (by omega) (by omega)
        have t538 := KLN_I526 (Int.toNat ((I 0 6))) (by omega)
        refine gv_callV hD rfl (As := [.inl 61]) (st := []) rfl (by decide) rfl rfl (gr_lV hws rfl) (Nat.le_of_ble_eq_true rfl) (gz_Ev_mono (d := 11) (by decide) E525) ?_
        show gv_X _ _ (65, [(3, .inl z507), (2, .inl (I488 0 72)), (1, .inl (I 0 6)), (0, .inr (.inr (some 0)))], [.inl z525], gr_sh ++ ext, gr_h I526 J527)
        refine gv_if_ne (t := 70) hD rfl rfl ⟨by omega, by omega⟩ (fun c539 => ?_) (fun c539 => ?_)
        · refine gv_run 3 true hD (pc' := 75) (lv' := [(3, .inl z507), (2, .inl (I488 0 72)), (1, .inl (I 0 6)), (0, .inr (.inr (some 0)))]) (st' := []) (h' := gz_up (gr_h I526 J527) 0 118 (.inl 0)) (C := (((True ∧ True) ∧ True) ∧ True)) rfl ⟨⟨⟨trivial, trivial⟩, trivial⟩, trivial⟩ ?_
          refine gr_st hI526 FI526 rfl rfl ⟨⟨by show 0 ≤ _; omega, by show _ ≤ 6; omega⟩, trivial⟩ (fun I540 hI540 FI540 q541 p541 => ?_)
          have t542 := p541 0 71 (by decide)
          have t543 := p541 0 72 (by decide)
          have t544 := p541 0 73 (by decide)
          have t545 := p541 0 69 (by decide)
          have t546 := p541 0 6 (by decide)
          have t547 := p541 0 59 (by decide)
          have t548 := p541 19 (Int.toNat ((I 0 6))) (fun q => absurd q.1 (by decide))
          have f549 := (show 0 ≤ I540 0 71 ∧ I540 0 71 ≤ 5 from (hI540 0 71).1)
          have f550 := (show 0 ≤ I540 0 72 ∧ I540 0 72 ≤ 1000 from (hI540 0 72).1)
          have f551 := (show 0 ≤ I540 0 73 ∧ I540 0 73 ≤ 1001 from (hI540 0 73).1)
          have f552 := (show 0 ≤ I540 0 69 ∧ I540 0 69 ≤ 1000 from (hI540 0 69).1)
          have f553 := (show (-1) ≤ I540 0 6 ∧ I540 0 6 ≤ 7 from (hI540 0 6).1)
          have f554 := (show 0 ≤ I540 0 59 ∧ I540 0 59 ≤ 2000 from (hI540 0 59).1)
          have KLN_I540 := gr_LN_fr KLN_I526 (fun k => p541 19 k (fun q => absurd q.1 (by decide))) (by omega) (by omega)
          have t555 := KLN_I540 (Int.toNat ((I 0 6))) (by omega)
          refine gv_run 3 true hD (pc' := 80) (lv' := [(3, .inl z507), (2, .inl (I488 0 72)), (1, .inl (I 0 6)), (0, .inr (.inr (some 0)))]) (st' := []) (h' := gz_up (gr_h I540 J527) 0 119 (.inl 0)) (C := (((True ∧ True) ∧ True) ∧ True)) rfl ⟨⟨⟨trivial, trivial⟩, trivial⟩, trivial⟩ ?_
          refine gr_st hI540 FI540 rfl rfl ⟨⟨by show 0 ≤ _; omega, by show _ ≤ 6; omega⟩, trivial⟩ (fun I556 hI556 FI556 q557 p557 => ?_)
          have t558 := p557 0 71 (by decide)
          have t559 := p557 0 72 (by decide)
          have t560 := p557 0 73 (by decide)
          have t561 := p557 0 69 (by decide)
          have t562 := p557 0 6 (by decide)
          have t563 := p557 0 59 (by decide)
          have t564 := p557 19 (Int.toNat ((I 0 6))) (fun q => absurd q.1 (by decide))
          have f565 := (show 0 ≤ I556 0 71 ∧ I556 0 71 ≤ 5 from (hI556 0 71).1)
          have f566 := (show 0 ≤ I556 0 72 ∧ I556 0 72 ≤ 1000 from (hI556 0 72).1)
          have f567 := (show 0 ≤ I556 0 73 ∧ I556 0 73 ≤ 1001 from (hI556 0 73).1)
          have f568 := (show 0 ≤ I556 0 69 ∧ I556 0 69 ≤ 1000 from (hI556 0 69).1)
          have f569 := (show (-1) ≤ I556 0 6 ∧ I556 0 6 ≤ 7 from (hI556 0 6).1)
          have f570 := (show 0 ≤ I556 0 59 ∧ I556 0 59 ≤ 2000 from (hI556 0 59).1)
          have KLN_I556 := gr_LN_fr KLN_I540 (fun k => p557 19 k (fun q => absurd q.1 (by decide))) (by omega) (by omega)
          have t571 := KLN_I556 (Int.toNat ((I 0 6))) (by omega)
          refine gv_run 2 true hD (pc' := 83) (lv' := [(4, .inl 0), (3, .inl z507), (2, .inl (I488 0 72)), (1, .inl (I 0 6)), (0, .inr (.inr (some 0)))]) (st' := []) (h' := gr_h I556 J527) (C := ((True ∧ True) ∧ True)) rfl ⟨⟨trivial, trivial⟩, trivial⟩ ?_
          refine gv_pick [4, 3, 2, 1, 0] rfl ?_
          exact L83 _ I556 J527 (I 0 6) (I488 0 72) z507 0 (Nat.lt_succ_self _) hI556 FI556 FJ527 KLN_I556 ⟨by omega, by omega⟩ ⟨by omega, by omega⟩ ⟨by omega, by omega⟩ ⟨by omega, by omega⟩ (by omega) (by omega) (by omega) (by omega) (by omega) (by omega) (by omega) (by omega) (by omega) (by omega) (by omega)
        · refine gv_run 1 true hD (pc' := 69) (lv' := [(3, .inl z507), (2, .inl (I488 0 72)), (1, .inl (I 0 6)), (0, .inr (.inr (some 0)))]) (st' := [.inl 0]) (h' := gr_h I526 J527) (C := (True ∧ True)) rfl ⟨trivial, trivial⟩ ?_
          exact gv_zret hD rfl (by omega) ⟨I526, J527, rfl, hI526, FI526, FJ527, KLN_I526, ⟨_, rfl, by omega, by omega, by omega, by omega, by omega, by omega, by omega, by omega, by omega, by omega, by omega⟩⟩
      · refine gv_pick [3] rfl ?_
        exact L49 I488 J489 hI488 FI488 FJ489 KLN_I488 (by omega) (by omega) (by omega) (by omega) (by omega) (by omega) (by omega) (by omega) (by omega) (by omega)
  · refine gv_run 1 true hD (pc' := 13) (lv' := [(1, .inl (I 0 6)), (0, .inr (.inr (some 0)))]) (st' := [.inl 0]) (h' := gr_h I488 J489) (C := (True ∧ True)) rfl ⟨trivial, trivial⟩ ?_
    exact gv_zret hD rfl (by omega) ⟨I488, J489, rfl, hI488, FI488, FJ489, KLN_I488, ⟨_, rfl, by omega, by omega, by omega, by omega, by omega, by omega, by omega, by omega, by omega, by omega, by omega⟩⟩
