set_option maxHeartbeats 4000000 in
set_option maxRecDepth 100000 in
theorem r_wordOf {ws0 : List Cond} {tb : String → gz_T} (hws : ∀ w ∈ gr_ws, w ∈ ws0) (htb : tb RX13 = gr_T) (ext : gz_Sh) (I : gr_I) (J : gr_J) (hI : gr_Inv I)   (x0 : I 0 71 = 5 ∨ I 0 73 ≤ I 0 69) (x1 : I 0 72 ≤ I 0 69) (x2 : I 0 71 = 0 ∨ (I 0 72 < I 0 73 ∧ I 0 72 < I 0 69)) (x3 : I 0 71 = 3 → 2 ≤ I 0 73 - I 0 72 ∧ I 0 73 - I 0 72 ≤ 14) (x4 : I 0 72 ≤ I 0 73) (x5 : 0 ≤ I 0 6) (x6 : I 0 59 + I 0 69 - I 0 72 ≤ 1900) : ∃ r h', gz_Ev ws0 tb 12 (yX13_wordOf, cX13_wordOf, 7, (some .boolean)) [.inr (.inr (some 0))] (gr_sh ++ ext) (gr_h I J) r (gr_sh ++ ext) h' 0 0 ∧ (∃ (I' : gr_I) (J' : gr_J), h' = gr_h I' J' ∧ gr_Inv I' ∧ gr_fr [59, 71, 72, 73, 74, 75, 76, 77, 101, 106] [18, 36, 37, 38, 39, 40, 51, 57, 67] I I' ∧ gr_fj [59, 71, 72, 73, 74, 75, 76, 77, 101, 106] [18, 36, 37, 38, 39, 40, 51, 57, 67] J J' ∧ (∃ z : Int, r = some (.inl z) ∧ 0 ≤ z ∧ z ≤ 1 ∧ (I' 0 71 = 5 ∨ I' 0 73 ≤ I' 0 69) ∧ (I' 0 72 ≤ I' 0 69) ∧ (I' 0 71 = 0 ∨ (I' 0 72 < I' 0 73 ∧ I' 0 72 < I' 0 69)) ∧ (I' 0 71 = 3 → 2 ≤ I' 0 73 - I' 0 72 ∧ I' 0 73 - I' 0 72 ≤ 14) ∧ (I' 0 72 ≤ I' 0 73) ∧ (I' 0 69 = I 0 69) ∧ (I 0 73 ≤ I' 0 73) ∧ (I 0 72 ≤ I' 0 72) ∧ (I' 0 59 - I' 0 72 ≤ I 0 59 - I 0 72))) := by
  have FI : gr_fr [59, 71, 72, 73, 74, 75, 76, 77, 101, 106] [18, 36, 37, 38, 39, 40, 51, 57, 67] I I := fun _ _ _ => rfl
  have FJ : gr_fj [59, 71, 72, 73, 74, 75, 76, 77, 101, 106] [18, 36, 37, 38, 39, 40, 51, 57, 67] J J := fun _ _ _ => rfl
  have hD : gv_D (gr_E ws0 tb 11 (yX13_wordOf, cX13_wordOf, 7, (some .boolean)) kX13_wordOf) := gq_ok oX13_wordOf
  refine gr_ev (d := 11) (l := kX13_wordOf) (Po := fun r h' => (∃ (I' : gr_I) (J' : gr_J), h' = gr_h I' J' ∧ gr_Inv I' ∧ gr_fr [59, 71, 72, 73, 74, 75, 76, 77, 101, 106] [18, 36, 37, 38, 39, 40, 51, 57, 67] I I' ∧ gr_fj [59, 71, 72, 73, 74, 75, 76, 77, 101, 106] [18, 36, 37, 38, 39, 40, 51, 57, 67] J J' ∧ (∃ z : Int, r = some (.inl z) ∧ 0 ≤ z ∧ z ≤ 1 ∧ (I' 0 71 = 5 ∨ I' 0 73 ≤ I' 0 69) ∧ (I' 0 72 ≤ I' 0 69) ∧ (I' 0 71 = 0 ∨ (I' 0 72 < I' 0 73 ∧ I' 0 72 < I' 0 69)) ∧ (I' 0 71 = 3 → 2 ≤ I' 0 73 - I' 0 72 ∧ I' 0 73 - I' 0 72 ≤ 14) ∧ (I' 0 72 ≤ I' 0 73) ∧ (I' 0 69 = I 0 69) ∧ (I 0 73 ≤ I' 0 73) ∧ (I 0 72 ≤ I' 0 72) ∧ (I' 0 59 - I' 0 72 ≤ I 0 59 - I 0 72)))) htb rfl (Nat.le_of_ble_eq_true rfl) ?_
  have f1 := (show 0 ≤ I 0 71 ∧ I 0 71 ≤ 5 from (hI 0 71).1)
  have f2 := (show 0 ≤ I 0 72 ∧ I 0 72 ≤ 1000 from (hI 0 72).1)
  have f3 := (show 0 ≤ I 0 73 ∧ I 0 73 ≤ 1001 from (hI 0 73).1)
  have f4 := (show 0 ≤ I 0 69 ∧ I 0 69 ≤ 1000 from (hI 0 69).1)
  have f5 := (show (-1) ≤ I 0 6 ∧ I 0 6 ≤ 7 from (hI 0 6).1)
  have f6 := (show 0 ≤ I 0 59 ∧ I 0 59 ≤ 2000 from (hI 0 59).1)
  have L44 : ∀ (I7 : gr_I) (J8 : gr_J) , gr_Inv I7 → gr_fr [59, 71, 72, 73, 74, 75, 76, 77, 101, 106] [18, 36, 37, 38, 39, 40, 51, 57, 67] I I7 → gr_fj [59, 71, 72, 73, 74, 75, 76, 77, 101, 106] [18, 36, 37, 38, 39, 40, 51, 57, 67] J J8 → (I7 0 71 = 5 ∨ I7 0 73 ≤ I7 0 69) → (I7 0 72 ≤ I7 0 69) → (I7 0 71 = 0 ∨ (I7 0 72 < I7 0 73 ∧ I7 0 72 < I7 0 69)) → (I7 0 71 = 3 → 2 ≤ I7 0 73 - I7 0 72 ∧ I7 0 73 - I7 0 72 ≤ 14) → (I7 0 72 ≤ I7 0 73) → (I7 0 69 = I 0 69) → (I 0 73 ≤ I7 0 73) → (I 0 72 ≤ I7 0 72) → (I7 0 6 = I 0 6) → (I7 0 59 - I7 0 72 ≤ I 0 59 - I 0 72) → gv_X (gr_E ws0 tb 11 (yX13_wordOf, cX13_wordOf, 7, (some .boolean)) kX13_wordOf) (gv_Q cX13_wordOf (some .boolean) (gr_sh ++ ext) (fun r h' => (∃ (I' : gr_I) (J' : gr_J), h' = gr_h I' J' ∧ gr_Inv I' ∧ gr_fr [59, 71, 72, 73, 74, 75, 76, 77, 101, 106] [18, 36, 37, 38, 39, 40, 51, 57, 67] I I' ∧ gr_fj [59, 71, 72, 73, 74, 75, 76, 77, 101, 106] [18, 36, 37, 38, 39, 40, 51, 57, 67] J J' ∧ (∃ z : Int, r = some (.inl z) ∧ 0 ≤ z ∧ z ≤ 1 ∧ (I' 0 71 = 5 ∨ I' 0 73 ≤ I' 0 69) ∧ (I' 0 72 ≤ I' 0 69) ∧ (I' 0 71 = 0 ∨ (I' 0 72 < I' 0 73 ∧ I' 0 72 < I' 0 69)) ∧ (I' 0 71 = 3 → 2 ≤ I' 0 73 - I' 0 72 ∧ I' 0 73 - I' 0 72 ≤ 14) ∧ (I' 0 72 ≤ I' 0 73) ∧ (I' 0 69 = I 0 69) ∧ (I 0 73 ≤ I' 0 73) ∧ (I 0 72 ≤ I' 0 72) ∧ (I' 0 59 - I' 0 72 ≤ I 0 59 - I 0 72))))) (44, [(0, .inr (.inr (some 0)))], [], gr_sh ++ ext, gr_h I7 J8) := by
    intro I7 J8 hI7 FI7 FJ8 e0_9 e1_9 e2_9 e3_9 e4_9 e5_9 e6_9 e7_9 e8_9 e9_9
    have f10 := (show 0 ≤ I7 0 71 ∧ I7 0 71 ≤ 5 from (hI7 0 71).1)
    have f11 := (show 0 ≤ I7 0 72 ∧ I7 0 72 ≤ 1000 from (hI7 0 72).1)
    have f12 := (show 0 ≤ I7 0 73 ∧ I7 0 73 ≤ 1001 from (hI7 0 73).1)
    have f13 := (show 0 ≤ I7 0 69 ∧ I7 0 69 ≤ 1000 from (hI7 0 69).1)
    have f14 := (show (-1) ≤ I7 0 6 ∧ I7 0 6 ≤ 7 from (hI7 0 6).1)
    have f15 := (show 0 ≤ I7 0 59 ∧ I7 0 59 ≤ 2000 from (hI7 0 59).1)
    refine gv_run 2 true hD (pc' := 46) (lv' := [(0, .inr (.inr (some 0)))]) (st' := [.inl 5, .inr (.inr (some 0))]) (h' := gr_h I7 J8) (C := ((True ∧ True) ∧ True)) rfl ⟨⟨trivial, trivial⟩, trivial⟩ ?_
    obtain ⟨r16, h16, E16, P16⟩ := r_no_ (ws0 := ws0) (tb := tb) hws htb ext I7 J8 hI7 5 ⟨by omega, by omega⟩ 
    obtain ⟨I17, J18, rfl, hI17, g16, k16, ⟨z16, rfl, q16⟩⟩ := P16
    have FI17 := gr_frt FI7 g16 rfl rfl
    have FJ18 := gr_fjt FJ8 k16 rfl rfl
    have t19 := g16 0 71 rfl
    have t20 := g16 0 72 rfl
    have t21 := g16 0 73 rfl
    have t22 := g16 0 69 rfl
    have t23 := g16 0 6 rfl
    have t24 := g16 0 59 rfl
    have f25 := (show 0 ≤ I17 0 71 ∧ I17 0 71 ≤ 5 from (hI17 0 71).1)
    have f26 := (show 0 ≤ I17 0 72 ∧ I17 0 72 ≤ 1000 from (hI17 0 72).1)
    have f27 := (show 0 ≤ I17 0 73 ∧ I17 0 73 ≤ 1001 from (hI17 0 73).1)
    have f28 := (show 0 ≤ I17 0 69 ∧ I17 0 69 ≤ 1000 from (hI17 0 69).1)
    have f29 := (show (-1) ≤ I17 0 6 ∧ I17 0 6 ≤ 7 from (hI17 0 6).1)
    have f30 := (show 0 ≤ I17 0 59 ∧ I17 0 59 ≤ 2000 from (hI17 0 59).1)
    refine gv_callV hD rfl (As := [.inl 5]) (st := []) rfl (by decide) rfl rfl (gr_lV hws rfl) (Nat.le_of_ble_eq_true rfl) (gz_Ev_mono (d := 2) (by decide) E16) ?_
    show gv_X _ _ (49, [(0, .inr (.inr (some 0)))], [.inl z16], gr_sh ++ ext, gr_h I17 J18)
    exact gv_zret hD rfl (by omega) ⟨I17, J18, rfl, hI17, FI17, FJ18, ⟨_, rfl, by omega, by omega, by omega, by omega, by omega, by omega, by omega, by omega, by omega, by omega, by omega⟩⟩
  have L119 : ∀ (n : Nat) (I31 : gr_I) (J32 : gr_J) (v1_33 : Int) (v2_33 : Int) (v3_33 : Int) (v4_33 : Int) (v5_33 : Int), (4 - v5_33).toNat < n → gr_Inv I31 → gr_fr [59, 71, 72, 73, 74, 75, 76, 77, 101, 106] [18, 36, 37, 38, 39, 40, 51, 57, 67] I I31 → gr_fj [59, 71, 72, 73, 74, 75, 76, 77, 101, 106] [18, 36, 37, 38, 39, 40, 51, 57, 67] J J32 → 0 ≤ v1_33 ∧ v1_33 ≤ 7 → 0 ≤ v2_33 ∧ v2_33 ≤ 95 → 0 ≤ v3_33 ∧ v3_33 ≤ 23 → 0 ≤ v4_33 ∧ v4_33 ≤ 0 → 0 ≤ v5_33 ∧ v5_33 ≤ 3 → (I31 0 71 = 5 ∨ I31 0 73 ≤ I31 0 69) → (I31 0 72 ≤ I31 0 69) → (I31 0 71 = 0 ∨ (I31 0 72 < I31 0 73 ∧ I31 0 72 < I31 0 69)) → (I31 0 71 = 3 → 2 ≤ I31 0 73 - I31 0 72 ∧ I31 0 73 - I31 0 72 ≤ 14) → (I31 0 72 ≤ I31 0 73) → (I31 0 69 = I 0 69) → (I 0 73 ≤ I31 0 73) → (I 0 72 ≤ I31 0 72) → (I31 0 6 = I 0 6) → (I31 0 59 - I31 0 72 ≤ I 0 59 - I 0 72) → gv_X (gr_E ws0 tb 11 (yX13_wordOf, cX13_wordOf, 7, (some .boolean)) kX13_wordOf) (gv_Q cX13_wordOf (some .boolean) (gr_sh ++ ext) (fun r h' => (∃ (I' : gr_I) (J' : gr_J), h' = gr_h I' J' ∧ gr_Inv I' ∧ gr_fr [59, 71, 72, 73, 74, 75, 76, 77, 101, 106] [18, 36, 37, 38, 39, 40, 51, 57, 67] I I' ∧ gr_fj [59, 71, 72, 73, 74, 75, 76, 77, 101, 106] [18, 36, 37, 38, 39, 40, 51, 57, 67] J J' ∧ (∃ z : Int, r = some (.inl z) ∧ 0 ≤ z ∧ z ≤ 1 ∧ (I' 0 71 = 5 ∨ I' 0 73 ≤ I' 0 69) ∧ (I' 0 72 ≤ I' 0 69) ∧ (I' 0 71 = 0 ∨ (I' 0 72 < I' 0 73 ∧ I' 0 72 < I' 0 69)) ∧ (I' 0 71 = 3 → 2 ≤ I' 0 73 - I' 0 72 ∧ I' 0 73 - I' 0 72 ≤ 14) ∧ (I' 0 72 ≤ I' 0 73) ∧ (I' 0 69 = I 0 69) ∧ (I 0 73 ≤ I' 0 73) ∧ (I 0 72 ≤ I' 0 72) ∧ (I' 0 59 - I' 0 72 ≤ I 0 59 - I 0 72))))) (119, [(0, .inr (.inr (some 0))), (1, .inl v1_33), (2, .inl v2_33), (3, .inl v3_33), (4, .inl v4_33), (5, .inl v5_33)], [], gr_sh ++ ext, gr_h I31 J32) := by
    intro n
    induction n with
    | zero => intro I31 J32 v1_33 v2_33 v3_33 v4_33 v5_33 hn; omega
    | succ n ih119 =>
      intro I31 J32 v1_33 v2_33 v3_33 v4_33 v5_33 hn hI31 FI31 FJ32 hv1_33 hv2_33 hv3_33 hv4_33 hv5_33 e0_33 e1_33 e2_33 e3_33 e4_33 e5_33 e6_33 e7_33 e8_33 e9_33
      have f34 := (show 0 ≤ I31 0 71 ∧ I31 0 71 ≤ 5 from (hI31 0 71).1)
      have f35 := (show 0 ≤ I31 0 72 ∧ I31 0 72 ≤ 1000 from (hI31 0 72).1)
      have f36 := (show 0 ≤ I31 0 73 ∧ I31 0 73 ≤ 1001 from (hI31 0 73).1)
      have f37 := (show 0 ≤ I31 0 69 ∧ I31 0 69 ≤ 1000 from (hI31 0 69).1)
      have f38 := (show (-1) ≤ I31 0 6 ∧ I31 0 6 ≤ 7 from (hI31 0 6).1)
      have f39 := (show 0 ≤ I31 0 59 ∧ I31 0 59 ≤ 2000 from (hI31 0 59).1)
      have L139 : ∀ (n : Nat) (I40 : gr_I) (J41 : gr_J) (v4_42 : Int), (1001 - I40 0 72).toNat < n → gr_Inv I40 → gr_fr [59, 71, 72, 73, 74, 75, 76, 77, 101, 106] [18, 36, 37, 38, 39, 40, 51, 57, 67] I I40 → gr_fj [59, 71, 72, 73, 74, 75, 76, 77, 101, 106] [18, 36, 37, 38, 39, 40, 51, 57, 67] J J41 → 0 ≤ v1_33 ∧ v1_33 ≤ 7 → 0 ≤ v2_33 ∧ v2_33 ≤ 95 → 0 ≤ v3_33 ∧ v3_33 ≤ 23 → 0 ≤ v4_42 ∧ v4_42 ≤ 3 → (I40 0 71 = 5 ∨ I40 0 73 ≤ I40 0 69) → (I40 0 72 ≤ I40 0 69) → (I40 0 71 = 0 ∨ (I40 0 72 < I40 0 73 ∧ I40 0 72 < I40 0 69)) → (I40 0 71 = 3 → 2 ≤ I40 0 73 - I40 0 72 ∧ I40 0 73 - I40 0 72 ≤ 14) → (I40 0 72 ≤ I40 0 73) → (I40 0 69 = I 0 69) → (I 0 73 ≤ I40 0 73) → (I 0 72 ≤ I40 0 72) → (I40 0 6 = I 0 6) → (I40 0 59 - I40 0 72 ≤ I 0 59 - I 0 72) → gv_X (gr_E ws0 tb 11 (yX13_wordOf, cX13_wordOf, 7, (some .boolean)) kX13_wordOf) (gv_Q cX13_wordOf (some .boolean) (gr_sh ++ ext) (fun r h' => (∃ (I' : gr_I) (J' : gr_J), h' = gr_h I' J' ∧ gr_Inv I' ∧ gr_fr [59, 71, 72, 73, 74, 75, 76, 77, 101, 106] [18, 36, 37, 38, 39, 40, 51, 57, 67] I I' ∧ gr_fj [59, 71, 72, 73, 74, 75, 76, 77, 101, 106] [18, 36, 37, 38, 39, 40, 51, 57, 67] J J' ∧ (∃ z : Int, r = some (.inl z) ∧ 0 ≤ z ∧ z ≤ 1 ∧ (I' 0 71 = 5 ∨ I' 0 73 ≤ I' 0 69) ∧ (I' 0 72 ≤ I' 0 69) ∧ (I' 0 71 = 0 ∨ (I' 0 72 < I' 0 73 ∧ I' 0 72 < I' 0 69)) ∧ (I' 0 71 = 3 → 2 ≤ I' 0 73 - I' 0 72 ∧ I' 0 73 - I' 0 72 ≤ 14) ∧ (I' 0 72 ≤ I' 0 73) ∧ (I' 0 69 = I 0 69) ∧ (I 0 73 ≤ I' 0 73) ∧ (I 0 72 ≤ I' 0 72) ∧ (I' 0 59 - I' 0 72 ≤ I 0 59 - I 0 72))))) (139, [(0, .inr (.inr (some 0))), (1, .inl v1_33), (2, .inl v2_33), (3, .inl v3_33), (4, .inl v4_42)], [], gr_sh ++ ext, gr_h I40 J41) := by
        intro n
        induction n with
        | zero => intro I40 J41 v4_42 hn; omega
        | succ n ih139 =>
          intro I40 J41 v4_42 hn hI40 FI40 FJ41 hv1_33_42 hv2_33_42 hv3_33_42 hv4_42 e0_42 e1_42 e2_42 e3_42 e4_42 e5_42 e6_42 e7_42 e8_42 e9_42
          have f43 := (show 0 ≤ I40 0 71 ∧ I40 0 71 ≤ 5 from (hI40 0 71).1)
          have f44 := (show 0 ≤ I40 0 72 ∧ I40 0 72 ≤ 1000 from (hI40 0 72).1)
          have f45 := (show 0 ≤ I40 0 73 ∧ I40 0 73 ≤ 1001 from (hI40 0 73).1)
          have f46 := (show 0 ≤ I40 0 69 ∧ I40 0 69 ≤ 1000 from (hI40 0 69).1)
          have f47 := (show (-1) ≤ I40 0 6 ∧ I40 0 6 ≤ 7 from (hI40 0 6).1)
          have f48 := (show 0 ≤ I40 0 59 ∧ I40 0 59 ≤ 2000 from (hI40 0 59).1)
          have L174 : 0 ≤ v1_33 ∧ v1_33 ≤ 7 → 0 ≤ v2_33 ∧ v2_33 ≤ 95 → 0 ≤ v3_33 ∧ v3_33 ≤ 23 → (I40 0 71 = 5 ∨ I40 0 73 ≤ I40 0 69) → (I40 0 72 ≤ I40 0 69) → (I40 0 71 = 0 ∨ (I40 0 72 < I40 0 73 ∧ I40 0 72 < I40 0 69)) → (I40 0 71 = 3 → 2 ≤ I40 0 73 - I40 0 72 ∧ I40 0 73 - I40 0 72 ≤ 14) → (I40 0 72 ≤ I40 0 73) → (I40 0 69 = I 0 69) → (I 0 73 ≤ I40 0 73) → (I 0 72 ≤ I40 0 72) → (I40 0 6 = I 0 6) → (I40 0 59 - I40 0 72 ≤ I 0 59 - I 0 72) → gv_X (gr_E ws0 tb 11 (yX13_wordOf, cX13_wordOf, 7, (some .boolean)) kX13_wordOf) (gv_Q cX13_wordOf (some .boolean) (gr_sh ++ ext) (fun r h' => (∃ (I' : gr_I) (J' : gr_J), h' = gr_h I' J' ∧ gr_Inv I' ∧ gr_fr [59, 71, 72, 73, 74, 75, 76, 77, 101, 106] [18, 36, 37, 38, 39, 40, 51, 57, 67] I I' ∧ gr_fj [59, 71, 72, 73, 74, 75, 76, 77, 101, 106] [18, 36, 37, 38, 39, 40, 51, 57, 67] J J' ∧ (∃ z : Int, r = some (.inl z) ∧ 0 ≤ z ∧ z ≤ 1 ∧ (I' 0 71 = 5 ∨ I' 0 73 ≤ I' 0 69) ∧ (I' 0 72 ≤ I' 0 69) ∧ (I' 0 71 = 0 ∨ (I' 0 72 < I' 0 73 ∧ I' 0 72 < I' 0 69)) ∧ (I' 0 71 = 3 → 2 ≤ I' 0 73 - I' 0 72 ∧ I' 0 73 - I' 0 72 ≤ 14) ∧ (I' 0 72 ≤ I' 0 73) ∧ (I' 0 69 = I 0 69) ∧ (I 0 73 ≤ I' 0 73) ∧ (I 0 72 ≤ I' 0 72) ∧ (I' 0 59 - I' 0 72 ≤ I 0 59 - I 0 72))))) (174, [(0, .inr (.inr (some 0))), (1, .inl v1_33), (2, .inl v2_33), (3, .inl v3_33)], [], gr_sh ++ ext, gr_h I40 J41) := by
            intro hv1_33_49 hv2_33_49 hv3_33_49 e0_49 e1_49 e2_49 e3_49 e4_49 e5_49 e6_49 e7_49 e8_49 e9_49
            have f50 := (show 0 ≤ I40 0 71 ∧ I40 0 71 ≤ 5 from (hI40 0 71).1)
            have f51 := (show 0 ≤ I40 0 72 ∧ I40 0 72 ≤ 1000 from (hI40 0 72).1)
            have f52 := (show 0 ≤ I40 0 73 ∧ I40 0 73 ≤ 1001 from (hI40 0 73).1)
            have f53 := (show 0 ≤ I40 0 69 ∧ I40 0 69 ≤ 1000 from (hI40 0 69).1)
            have f54 := (show (-1) ≤ I40 0 6 ∧ I40 0 6 ≤ 7 from (hI40 0 6).1)
            have f55 := (show 0 ≤ I40 0 59 ∧ I40 0 59 ≤ 2000 from (hI40 0 59).1)
            have L246 : ∀ (I56 : gr_I) (J57 : gr_J) , gr_Inv I56 → gr_fr [59, 71, 72, 73, 74, 75, 76, 77, 101, 106] [18, 36, 37, 38, 39, 40, 51, 57, 67] I I56 → gr_fj [59, 71, 72, 73, 74, 75, 76, 77, 101, 106] [18, 36, 37, 38, 39, 40, 51, 57, 67] J J57 → 0 ≤ v1_33 ∧ v1_33 ≤ 7 → 0 ≤ v2_33 ∧ v2_33 ≤ 95 → 0 ≤ v3_33 ∧ v3_33 ≤ 23 → (I56 0 71 = 5 ∨ I56 0 73 ≤ I56 0 69) → (I56 0 72 ≤ I56 0 69) → (I56 0 71 = 0 ∨ (I56 0 72 < I56 0 73 ∧ I56 0 72 < I56 0 69)) → (I56 0 71 = 3 → 2 ≤ I56 0 73 - I56 0 72 ∧ I56 0 73 - I56 0 72 ≤ 14) → (I56 0 72 ≤ I56 0 73) → (I56 0 69 = I 0 69) → (I 0 73 ≤ I56 0 73) → (I 0 72 ≤ I56 0 72) → (I56 0 6 = I 0 6) → (I56 0 59 - I56 0 72 ≤ I 0 59 - I 0 72) → gv_X (gr_E ws0 tb 11 (yX13_wordOf, cX13_wordOf, 7, (some .boolean)) kX13_wordOf) (gv_Q cX13_wordOf (some .boolean) (gr_sh ++ ext) (fun r h' => (∃ (I' : gr_I) (J' : gr_J), h' = gr_h I' J' ∧ gr_Inv I' ∧ gr_fr [59, 71, 72, 73, 74, 75, 76, 77, 101, 106] [18, 36, 37, 38, 39, 40, 51, 57, 67] I I' ∧ gr_fj [59, 71, 72, 73, 74, 75, 76, 77, 101, 106] [18, 36, 37, 38, 39, 40, 51, 57, 67] J J' ∧ (∃ z : Int, r = some (.inl z) ∧ 0 ≤ z ∧ z ≤ 1 ∧ (I' 0 71 = 5 ∨ I' 0 73 ≤ I' 0 69) ∧ (I' 0 72 ≤ I' 0 69) ∧ (I' 0 71 = 0 ∨ (I' 0 72 < I' 0 73 ∧ I' 0 72 < I' 0 69)) ∧ (I' 0 71 = 3 → 2 ≤ I' 0 73 - I' 0 72 ∧ I' 0 73 - I' 0 72 ≤ 14) ∧ (I' 0 72 ≤ I' 0 73) ∧ (I' 0 69 = I 0 69) ∧ (I 0 73 ≤ I' 0 73) ∧ (I 0 72 ≤ I' 0 72) ∧ (I' 0 59 - I' 0 72 ≤ I 0 59 - I 0 72))))) (246, [(0, .inr (.inr (some 0))), (1, .inl v1_33), (2, .inl v2_33), (3, .inl v3_33)], [], gr_sh ++ ext, gr_h I56 J57) := by
              intro I56 J57 hI56 FI56 FJ57 hv1_33_58 hv2_33_58 hv3_33_58 e0_58 e1_58 e2_58 e3_58 e4_58 e5_58 e6_58 e7_58 e8_58 e9_58
              have f59 := (show 0 ≤ I56 0 71 ∧ I56 0 71 ≤ 5 from (hI56 0 71).1)
              have f60 := (show 0 ≤ I56 0 72 ∧ I56 0 72 ≤ 1000 from (hI56 0 72).1)
              have f61 := (show 0 ≤ I56 0 73 ∧ I56 0 73 ≤ 1001 from (hI56 0 73).1)
              have f62 := (show 0 ≤ I56 0 69 ∧ I56 0 69 ≤ 1000 from (hI56 0 69).1)
              have f63 := (show (-1) ≤ I56 0 6 ∧ I56 0 6 ≤ 7 from (hI56 0 6).1)
              have f64 := (show 0 ≤ I56 0 59 ∧ I56 0 59 ≤ 2000 from (hI56 0 59).1)
              have L276 : ∀ (I65 : gr_I) (J66 : gr_J) , gr_Inv I65 → gr_fr [59, 71, 72, 73, 74, 75, 76, 77, 101, 106] [18, 36, 37, 38, 39, 40, 51, 57, 67] I I65 → gr_fj [59, 71, 72, 73, 74, 75, 76, 77, 101, 106] [18, 36, 37, 38, 39, 40, 51, 57, 67] J J66 → (I65 0 71 = 5 ∨ I65 0 73 ≤ I65 0 69) → (I65 0 72 ≤ I65 0 69) → (I65 0 71 = 0 ∨ (I65 0 72 < I65 0 73 ∧ I65 0 72 < I65 0 69)) → (I65 0 71 = 3 → 2 ≤ I65 0 73 - I65 0 72 ∧ I65 0 73 - I65 0 72 ≤ 14) → (I65 0 72 ≤ I65 0 73) → (I65 0 69 = I 0 69) → (I 0 73 ≤ I65 0 73) → (I 0 72 ≤ I65 0 72) → (I65 0 6 = I 0 6) → (I65 0 59 - I65 0 72 ≤ I 0 59 - I 0 72) → gv_X (gr_E ws0 tb 11 (yX13_wordOf, cX13_wordOf, 7, (some .boolean)) kX13_wordOf) (gv_Q cX13_wordOf (some .boolean) (gr_sh ++ ext) (fun r h' => (∃ (I' : gr_I) (J' : gr_J), h' = gr_h I' J' ∧ gr_Inv I' ∧ gr_fr [59, 71, 72, 73, 74, 75, 76, 77, 101, 106] [18, 36, 37, 38, 39, 40, 51, 57, 67] I I' ∧ gr_fj [59, 71, 72, 73, 74, 75, 76, 77, 101, 106] [18, 36, 37, 38, 39, 40, 51, 57, 67] J J' ∧ (∃ z : Int, r = some (.inl z) ∧ 0 ≤ z ∧ z ≤ 1 ∧ (I' 0 71 = 5 ∨ I' 0 73 ≤ I' 0 69) ∧ (I' 0 72 ≤ I' 0 69) ∧ (I' 0 71 = 0 ∨ (I' 0 72 < I' 0 73 ∧ I' 0 72 < I' 0 69)) ∧ (I' 0 71 = 3 → 2 ≤ I' 0 73 - I' 0 72 ∧ I' 0 73 - I' 0 72 ≤ 14) ∧ (I' 0 72 ≤ I' 0 73) ∧ (I' 0 69 = I 0 69) ∧ (I 0 73 ≤ I' 0 73) ∧ (I 0 72 ≤ I' 0 72) ∧ (I' 0 59 - I' 0 72 ≤ I 0 59 - I 0 72))))) (276, [], [], gr_sh ++ ext, gr_h I65 J66) := by
                intro I65 J66 hI65 FI65 FJ66 e0_67 e1_67 e2_67 e3_67 e4_67 e5_67 e6_67 e7_67 e8_67 e9_67
                have f68 := (show 0 ≤ I65 0 71 ∧ I65 0 71 ≤ 5 from (hI65 0 71).1)
                have f69 := (show 0 ≤ I65 0 72 ∧ I65 0 72 ≤ 1000 from (hI65 0 72).1)
                have f70 := (show 0 ≤ I65 0 73 ∧ I65 0 73 ≤ 1001 from (hI65 0 73).1)
                have f71 := (show 0 ≤ I65 0 69 ∧ I65 0 69 ≤ 1000 from (hI65 0 69).1)
                have f72 := (show (-1) ≤ I65 0 6 ∧ I65 0 6 ≤ 7 from (hI65 0 6).1)
                have f73 := (show 0 ≤ I65 0 59 ∧ I65 0 59 ≤ 2000 from (hI65 0 59).1)
                refine gv_run 1 true hD (pc' := 277) (lv' := []) (st' := [.inl 0]) (h' := gr_h I65 J66) (C := (True ∧ True)) rfl ⟨trivial, trivial⟩ ?_
                exact gv_zret hD rfl (by omega) ⟨I65, J66, rfl, hI65, FI65, FJ66, ⟨_, rfl, by omega, by omega, by omega, by omega, by omega, by omega, by omega, by omega, by omega, by omega, by omega⟩⟩
              have L270 : ∀ (I74 : gr_I) (J75 : gr_J) (s1_76 : Int), gr_Inv I74 → gr_fr [59, 71, 72, 73, 74, 75, 76, 77, 101, 106] [18, 36, 37, 38, 39, 40, 51, 57, 67] I I74 → gr_fj [59, 71, 72, 73, 74, 75, 76, 77, 101, 106] [18, 36, 37, 38, 39, 40, 51, 57, 67] J J75 → 0 ≤ v1_33 ∧ v1_33 ≤ 7 → 0 ≤ v2_33 ∧ v2_33 ≤ 95 → 0 ≤ v3_33 ∧ v3_33 ≤ 23 → 0 ≤ s1_76 ∧ s1_76 ≤ 1 → (s1_76 = 0 ∨ I74 18 (Int.toNat v1_33) ≤ 63) → (I74 0 71 = 5 ∨ I74 0 73 ≤ I74 0 69) → (I74 0 72 ≤ I74 0 69) → (I74 0 71 = 0 ∨ (I74 0 72 < I74 0 73 ∧ I74 0 72 < I74 0 69)) → (I74 0 71 = 3 → 2 ≤ I74 0 73 - I74 0 72 ∧ I74 0 73 - I74 0 72 ≤ 14) → (I74 0 72 ≤ I74 0 73) → (I74 0 69 = I 0 69) → (I 0 73 ≤ I74 0 73) → (I 0 72 ≤ I74 0 72) → (I74 0 6 = I 0 6) → (I74 0 59 - I74 0 72 ≤ I 0 59 - I 0 72) → gv_X (gr_E ws0 tb 11 (yX13_wordOf, cX13_wordOf, 7, (some .boolean)) kX13_wordOf) (gv_Q cX13_wordOf (some .boolean) (gr_sh ++ ext) (fun r h' => (∃ (I' : gr_I) (J' : gr_J), h' = gr_h I' J' ∧ gr_Inv I' ∧ gr_fr [59, 71, 72, 73, 74, 75, 76, 77, 101, 106] [18, 36, 37, 38, 39, 40, 51, 57, 67] I I' ∧ gr_fj [59, 71, 72, 73, 74, 75, 76, 77, 101, 106] [18, 36, 37, 38, 39, 40, 51, 57, 67] J J' ∧ (∃ z : Int, r = some (.inl z) ∧ 0 ≤ z ∧ z ≤ 1 ∧ (I' 0 71 = 5 ∨ I' 0 73 ≤ I' 0 69) ∧ (I' 0 72 ≤ I' 0 69) ∧ (I' 0 71 = 0 ∨ (I' 0 72 < I' 0 73 ∧ I' 0 72 < I' 0 69)) ∧ (I' 0 71 = 3 → 2 ≤ I' 0 73 - I' 0 72 ∧ I' 0 73 - I' 0 72 ≤ 14) ∧ (I' 0 72 ≤ I' 0 73) ∧ (I' 0 69 = I 0 69) ∧ (I 0 73 ≤ I' 0 73) ∧ (I 0 72 ≤ I' 0 72) ∧ (I' 0 59 - I' 0 72 ≤ I 0 59 - I 0 72))))) (270, [(0, .inr (.inr (some 0))), (1, .inl v1_33), (2, .inl v2_33), (3, .inl v3_33)], [.inl s1_76, .inr (.inr (some 0))], gr_sh ++ ext, gr_h I74 J75) := by
                intro I74 J75 s1_76 hI74 FI74 FJ75 hv1_33_76 hv2_33_76 hv3_33_76 hs1_76 e0_76 e1_76 e2_76 e3_76 e4_76 e5_76 e6_76 e7_76 e8_76 e9_76 e10_76
                have f77 := (show 0 ≤ I74 0 71 ∧ I74 0 71 ≤ 5 from (hI74 0 71).1)
                have f78 := (show 0 ≤ I74 0 72 ∧ I74 0 72 ≤ 1000 from (hI74 0 72).1)
                have f79 := (show 0 ≤ I74 0 73 ∧ I74 0 73 ≤ 1001 from (hI74 0 73).1)
                have f80 := (show 0 ≤ I74 0 69 ∧ I74 0 69 ≤ 1000 from (hI74 0 69).1)
                have f81 := (show (-1) ≤ I74 0 6 ∧ I74 0 6 ≤ 7 from (hI74 0 6).1)
                have f82 := (show 0 ≤ I74 0 59 ∧ I74 0 59 ≤ 2000 from (hI74 0 59).1)
                have L315 : ∀ (n : Nat) (I83 : gr_I) (J84 : gr_J) (v5_85 : Int) (v6_85 : Int), (4 - v6_85).toNat < n → gr_Inv I83 → gr_fr [59, 71, 72, 73, 74, 75, 76, 77, 101, 106] [18, 36, 37, 38, 39, 40, 51, 57, 67] I I83 → gr_fj [59, 71, 72, 73, 74, 75, 76, 77, 101, 106] [18, 36, 37, 38, 39, 40, 51, 57, 67] J J84 → 0 ≤ v5_85 ∧ v5_85 ≤ 511 → 0 ≤ v6_85 ∧ v6_85 ≤ 3 → (I83 0 71 = 5 ∨ I83 0 73 ≤ I83 0 69) → (I83 0 72 ≤ I83 0 69) → (I83 0 71 = 0 ∨ (I83 0 72 < I83 0 73 ∧ I83 0 72 < I83 0 69)) → (I83 0 71 = 3 → 2 ≤ I83 0 73 - I83 0 72 ∧ I83 0 73 - I83 0 72 ≤ 14) → (I83 0 72 ≤ I83 0 73) → (I83 0 69 = I 0 69) → (I 0 73 ≤ I83 0 73) → (I 0 72 ≤ I83 0 72) → (I83 0 6 = I 0 6) → (I83 0 59 - I83 0 72 ≤ I 0 59 - I 0 72) → gv_X (gr_E ws0 tb 11 (yX13_wordOf, cX13_wordOf, 7, (some .boolean)) kX13_wordOf) (gv_Q cX13_wordOf (some .boolean) (gr_sh ++ ext) (fun r h' => (∃ (I' : gr_I) (J' : gr_J), h' = gr_h I' J' ∧ gr_Inv I' ∧ gr_fr [59, 71, 72, 73, 74, 75, 76, 77, 101, 106] [18, 36, 37, 38, 39, 40, 51, 57, 67] I I' ∧ gr_fj [59, 71, 72, 73, 74, 75, 76, 77, 101, 106] [18, 36, 37, 38, 39, 40, 51, 57, 67] J J' ∧ (∃ z : Int, r = some (.inl z) ∧ 0 ≤ z ∧ z ≤ 1 ∧ (I' 0 71 = 5 ∨ I' 0 73 ≤ I' 0 69) ∧ (I' 0 72 ≤ I' 0 69) ∧ (I' 0 71 = 0 ∨ (I' 0 72 < I' 0 73 ∧ I' 0 72 < I' 0 69)) ∧ (I' 0 71 = 3 → 2 ≤ I' 0 73 - I' 0 72 ∧ I' 0 73 - I' 0 72 ≤ 14) ∧ (I' 0 72 ≤ I' 0 73) ∧ (I' 0 69 = I 0 69) ∧ (I 0 73 ≤ I' 0 73) ∧ (I 0 72 ≤ I' 0 72) ∧ (I' 0 59 - I' 0 72 ≤ I 0 59 - I 0 72))))) (315, [(0, .inr (.inr (some 0))), (5, .inl v5_85), (6, .inl v6_85)], [], gr_sh ++ ext, gr_h I83 J84) := by
                  intro n
                  induction n with
                  | zero => intro I83 J84 v5_85 v6_85 hn; omega
                  | succ n ih315 =>
                    intro I83 J84 v5_85 v6_85 hn hI83 FI83 FJ84 hv5_85 hv6_85 e0_85 e1_85 e2_85 e3_85 e4_85 e5_85 e6_85 e7_85 e8_85 e9_85
                    have f86 := (show 0 ≤ I83 0 71 ∧ I83 0 71 ≤ 5 from (hI83 0 71).1)
                    have f87 := (show 0 ≤ I83 0 72 ∧ I83 0 72 ≤ 1000 from (hI83 0 72).1)
                    have f88 := (show 0 ≤ I83 0 73 ∧ I83 0 73 ≤ 1001 from (hI83 0 73).1)
                    have f89 := (show 0 ≤ I83 0 69 ∧ I83 0 69 ≤ 1000 from (hI83 0 69).1)
                    have f90 := (show (-1) ≤ I83 0 6 ∧ I83 0 6 ≤ 7 from (hI83 0 6).1)
                    have f91 := (show 0 ≤ I83 0 59 ∧ I83 0 59 ≤ 2000 from (hI83 0 59).1)
                    refine gv_run 2 true hD (pc' := 318) (lv' := [(0, .inr (.inr (some 0))), (5, .inl v5_85), (6, .inl v6_85)]) (st' := [.inl 3, .inl v6_85]) (h' := gr_h I83 J84) (C := ((True ∧ True) ∧ True)) rfl ⟨⟨trivial, trivial⟩, trivial⟩ ?_
                    refine gv_icmp_ge (t := 346) hD rfl rfl ⟨⟨by omega, by omega⟩, ⟨by omega, by omega⟩⟩ (fun c92 => ?_) (fun c92 => ?_)
                    · have f93 := (show 0 ≤ I83 0 106 ∧ I83 0 106 ≤ 16777215 from (hI83 0 106).1)
                      refine gv_run 5 true hD (pc' := 356) (lv' := [(0, .inr (.inr (some 0))), (5, .inl v5_85), (6, .inl v6_85)]) (st' := [.inl (I83 0 106), .inl v5_85, .inr (.inr (some 39))]) (h' := gr_h I83 J84) (C := (((((True ∧ True) ∧ True) ∧ True) ∧ True) ∧ True)) rfl ⟨⟨⟨⟨⟨trivial, trivial⟩, trivial⟩, trivial⟩, trivial⟩, trivial⟩ ?_
                      refine gv_run 1 true hD (pc' := 357) (lv' := [(0, .inr (.inr (some 0))), (5, .inl v5_85), (6, .inl v6_85)]) (st' := []) (h' := gz_up (gr_h I83 J84) 39 (Int.toNat v5_85) (.inl (I83 0 106))) (C := (True ∧ (0 ≤ v5_85 ∧ v5_85 < ((512 : Nat) : Int)))) rfl ⟨trivial, ⟨by omega, by omega⟩⟩ ?_
                      refine gr_st hI83 FI83 rfl rfl ⟨⟨by show 0 ≤ _; omega, by show _ ≤ 16777215; omega⟩, trivial⟩ (fun I94 hI94 FI94 q95 p95 => ?_)
                      have t96 := p95 0 71 (fun q => absurd q.1 (by decide))
                      have t97 := p95 0 72 (fun q => absurd q.1 (by decide))
                      have t98 := p95 0 73 (fun q => absurd q.1 (by decide))
                      have t99 := p95 0 69 (fun q => absurd q.1 (by decide))
                      have t100 := p95 0 6 (fun q => absurd q.1 (by decide))
                      have t101 := p95 0 59 (fun q => absurd q.1 (by decide))
                      have f102 := (show 0 ≤ I94 0 71 ∧ I94 0 71 ≤ 5 from (hI94 0 71).1)
                      have f103 := (show 0 ≤ I94 0 72 ∧ I94 0 72 ≤ 1000 from (hI94 0 72).1)
                      have f104 := (show 0 ≤ I94 0 73 ∧ I94 0 73 ≤ 1001 from (hI94 0 73).1)
                      have f105 := (show 0 ≤ I94 0 69 ∧ I94 0 69 ≤ 1000 from (hI94 0 69).1)
                      have f106 := (show (-1) ≤ I94 0 6 ∧ I94 0 6 ≤ 7 from (hI94 0 6).1)
                      have f107 := (show 0 ≤ I94 0 59 ∧ I94 0 59 ≤ 2000 from (hI94 0 59).1)
                      have f108 := (show 0 ≤ I94 0 101 ∧ I94 0 101 ≤ 10000 from (hI94 0 101).1)
                      refine gv_run 5 true hD (pc' := 367) (lv' := [(0, .inr (.inr (some 0))), (5, .inl v5_85), (6, .inl v6_85)]) (st' := [.inl (I94 0 101), .inl v5_85, .inr (.inr (some 40))]) (h' := gr_h I94 J84) (C := (((((True ∧ True) ∧ True) ∧ True) ∧ True) ∧ True)) rfl ⟨⟨⟨⟨⟨trivial, trivial⟩, trivial⟩, trivial⟩, trivial⟩, trivial⟩ ?_
                      refine gv_run 1 true hD (pc' := 368) (lv' := [(0, .inr (.inr (some 0))), (5, .inl v5_85), (6, .inl v6_85)]) (st' := []) (h' := gz_up (gr_h I94 J84) 40 (Int.toNat v5_85) (.inl (I94 0 101))) (C := (True ∧ (0 ≤ v5_85 ∧ v5_85 < ((512 : Nat) : Int)))) rfl ⟨trivial, ⟨by omega, by omega⟩⟩ ?_
                      refine gr_st hI94 FI94 rfl rfl ⟨⟨by show 0 ≤ _; omega, by show _ ≤ 10000; omega⟩, trivial⟩ (fun I109 hI109 FI109 q110 p110 => ?_)
                      have t111 := p110 0 71 (fun q => absurd q.1 (by decide))
                      have t112 := p110 0 72 (fun q => absurd q.1 (by decide))
                      have t113 := p110 0 73 (fun q => absurd q.1 (by decide))
                      have t114 := p110 0 69 (fun q => absurd q.1 (by decide))
                      have t115 := p110 0 6 (fun q => absurd q.1 (by decide))
                      have t116 := p110 0 59 (fun q => absurd q.1 (by decide))
                      have f117 := (show 0 ≤ I109 0 71 ∧ I109 0 71 ≤ 5 from (hI109 0 71).1)
                      have f118 := (show 0 ≤ I109 0 72 ∧ I109 0 72 ≤ 1000 from (hI109 0 72).1)
                      have f119 := (show 0 ≤ I109 0 73 ∧ I109 0 73 ≤ 1001 from (hI109 0 73).1)
                      have f120 := (show 0 ≤ I109 0 69 ∧ I109 0 69 ≤ 1000 from (hI109 0 69).1)
                      have f121 := (show (-1) ≤ I109 0 6 ∧ I109 0 6 ≤ 7 from (hI109 0 6).1)
                      have f122 := (show 0 ≤ I109 0 59 ∧ I109 0 59 ≤ 2000 from (hI109 0 59).1)
                      refine gv_run 1 true hD (pc' := 369) (lv' := [(0, .inr (.inr (some 0))), (5, .inl v5_85), (6, .inl v6_85)]) (st' := [.inl 1]) (h' := gr_h I109 J84) (C := (True ∧ True)) rfl ⟨trivial, trivial⟩ ?_
                      exact gv_zret hD rfl (by omega) ⟨I109, J84, rfl, hI109, FI109, FJ84, ⟨_, rfl, by omega, by omega, by omega, by omega, by omega, by omega, by omega, by omega, by omega, by omega, by omega⟩⟩
                    · refine gv_run 7 true hD (pc' := 332) (lv' := [(0, .inr (.inr (some 0))), (5, .inl v5_85), (6, .inl v6_85)]) (st' := [.inl ((3 * v5_85) + v6_85), .inr (.inr (some 38))]) (h' := gr_h I83 J84) (C := (((((((True ∧ True) ∧ True) ∧ True) ∧ True) ∧ True) ∧ True) ∧ True)) rfl ⟨⟨⟨⟨⟨⟨⟨trivial, trivial⟩, trivial⟩, trivial⟩, trivial⟩, trivial⟩, trivial⟩, trivial⟩ ?_
                      have f123 := (show (-1) ≤ I83 67 (Int.toNat v6_85) ∧ I83 67 (Int.toNat v6_85) ≤ 32015 from (hI83 67 (Int.toNat v6_85)).1)
                      refine gv_run 4 true hD (pc' := 339) (lv' := [(0, .inr (.inr (some 0))), (5, .inl v5_85), (6, .inl v6_85)]) (st' := [.inl (I83 67 (Int.toNat v6_85)), .inl ((3 * v5_85) + v6_85), .inr (.inr (some 38))]) (h' := gr_h I83 J84) (C := ((((True ∧ True) ∧ True) ∧ True) ∧ (0 ≤ v6_85 ∧ v6_85 < ((3 : Nat) : Int)))) rfl ⟨⟨⟨⟨trivial, trivial⟩, trivial⟩, trivial⟩, ⟨by omega, by omega⟩⟩ ?_
                      refine gv_run 1 true hD (pc' := 340) (lv' := [(0, .inr (.inr (some 0))), (5, .inl v5_85), (6, .inl v6_85)]) (st' := []) (h' := gz_up (gr_h I83 J84) 38 (Int.toNat (((3 * v5_85) + v6_85))) (.inl ((I83 67 (Int.toNat v6_85))))) (C := (True ∧ (0 ≤ (((3 * v5_85) + v6_85)) ∧ (((3 * v5_85) + v6_85)) < ((1536 : Nat) : Int)))) rfl ⟨trivial, ⟨by omega, by omega⟩⟩ ?_
                      refine gr_st hI83 FI83 rfl rfl ⟨⟨by show (-1) ≤ _; omega, by show _ ≤ 32015; omega⟩, trivial⟩ (fun I124 hI124 FI124 q125 p125 => ?_)
                      have t126 := p125 0 71 (fun q => absurd q.1 (by decide))
                      have t127 := p125 0 72 (fun q => absurd q.1 (by decide))
                      have t128 := p125 0 73 (fun q => absurd q.1 (by decide))
                      have t129 := p125 0 69 (fun q => absurd q.1 (by decide))
                      have t130 := p125 0 6 (fun q => absurd q.1 (by decide))
                      have t131 := p125 0 59 (fun q => absurd q.1 (by decide))
                      have f132 := (show 0 ≤ I124 0 71 ∧ I124 0 71 ≤ 5 from (hI124 0 71).1)
                      have f133 := (show 0 ≤ I124 0 72 ∧ I124 0 72 ≤ 1000 from (hI124 0 72).1)
                      have f134 := (show 0 ≤ I124 0 73 ∧ I124 0 73 ≤ 1001 from (hI124 0 73).1)
                      have f135 := (show 0 ≤ I124 0 69 ∧ I124 0 69 ≤ 1000 from (hI124 0 69).1)
                      have f136 := (show (-1) ≤ I124 0 6 ∧ I124 0 6 ≤ 7 from (hI124 0 6).1)
                      have f137 := (show 0 ≤ I124 0 59 ∧ I124 0 59 ≤ 2000 from (hI124 0 59).1)
                      refine gv_run 2 true hD (pc' := 315) (lv' := [(6, .inl (v6_85 + 1)), (0, .inr (.inr (some 0))), (5, .inl v5_85)]) (st' := []) (h' := gr_h I124 J84) (C := ((True ∧ True) ∧ True)) rfl ⟨⟨trivial, trivial⟩, trivial⟩ ?_
                      refine gv_pick [1, 2, 0] rfl ?_
                      exact ih315 I124 J84 v5_85 (v6_85 + 1) (by omega) hI124 FI124 FJ84 ⟨by omega, by omega⟩ ⟨by omega, by omega⟩ (by omega) (by omega) (by omega) (by omega) (by omega) (by omega) (by omega) (by omega) (by omega) (by omega)
                obtain ⟨r138, h138, E138, P138⟩ := r_done (ws0 := ws0) (tb := tb) hws htb ext I74 J75 hI74 s1_76 ⟨by omega, by omega⟩ (by omega) (by omega) (by omega) (by omega) (by omega)
                obtain ⟨I139, J140, rfl, hI139, g138, k138, ⟨z138, rfl, q138⟩⟩ := P138
                have FI139 := gr_frt FI74 g138 rfl rfl
                have FJ140 := gr_fjt FJ75 k138 rfl rfl
                have t141 := g138 0 69 rfl
                have t142 := g138 0 6 rfl
                have t143 := g138 0 59 rfl
                have t144 := g138 18 (Int.toNat v1_33) rfl
                have f145 := (show 0 ≤ I139 0 71 ∧ I139 0 71 ≤ 5 from (hI139 0 71).1)
                have f146 := (show 0 ≤ I139 0 72 ∧ I139 0 72 ≤ 1000 from (hI139 0 72).1)
                have f147 := (show 0 ≤ I139 0 73 ∧ I139 0 73 ≤ 1001 from (hI139 0 73).1)
                have f148 := (show 0 ≤ I139 0 69 ∧ I139 0 69 ≤ 1000 from (hI139 0 69).1)
                have f149 := (show (-1) ≤ I139 0 6 ∧ I139 0 6 ≤ 7 from (hI139 0 6).1)
                have f150 := (show 0 ≤ I139 0 59 ∧ I139 0 59 ≤ 2000 from (hI139 0 59).1)
                refine gv_callV hD rfl (As := [.inl s1_76]) (st := []) rfl (by decide) rfl rfl (gr_lV hws rfl) (Nat.le_of_ble_eq_true rfl) (gz_Ev_mono (d := 11) (by decide) E138) ?_
                show gv_X _ _ (273, [(0, .inr (.inr (some 0))), (1, .inl v1_33), (2, .inl v2_33), (3, .inl v3_33)], [.inl z138], gr_sh ++ ext, gr_h I139 J140)
                refine gv_if_ne (t := 278) hD rfl rfl ⟨by omega, by omega⟩ (fun c151 => ?_) (fun c151 => ?_)
                · refine gv_run 7 true hD (pc' := 288) (lv' := [(0, .inr (.inr (some 0))), (1, .inl v1_33), (2, .inl v2_33), (3, .inl v3_33)]) (st' := [.inl v1_33, .inr (.inr (some 18)), .inl v1_33, .inr (.inr (some 18)), .inl (64 * v1_33)]) (h' := gr_h I139 J140) (C := (((((((True ∧ True) ∧ True) ∧ True) ∧ True) ∧ True) ∧ True) ∧ True)) rfl ⟨⟨⟨⟨⟨⟨⟨trivial, trivial⟩, trivial⟩, trivial⟩, trivial⟩, trivial⟩, trivial⟩, trivial⟩ ?_
                  have f152 := (show 0 ≤ I139 18 (Int.toNat v1_33) ∧ I139 18 (Int.toNat v1_33) ≤ 64 from (hI139 18 (Int.toNat v1_33)).1)
                  refine gv_run 1 true hD (pc' := 289) (lv' := [(0, .inr (.inr (some 0))), (1, .inl v1_33), (2, .inl v2_33), (3, .inl v3_33)]) (st' := [.inl (I139 18 (Int.toNat v1_33)), .inl v1_33, .inr (.inr (some 18)), .inl (64 * v1_33)]) (h' := gr_h I139 J140) (C := (True ∧ (0 ≤ v1_33 ∧ v1_33 < ((8 : Nat) : Int)))) rfl ⟨trivial, ⟨by omega, by omega⟩⟩ ?_
                  refine gv_run 3 true hD (pc' := 292) (lv' := [(0, .inr (.inr (some 0))), (1, .inl v1_33), (2, .inl v2_33), (3, .inl v3_33)]) (st' := [.inl ((I139 18 (Int.toNat v1_33)) + 1), .inl v1_33, .inr (.inr (some 18)), .inl (I139 18 (Int.toNat v1_33)), .inl (64 * v1_33)]) (h' := gr_h I139 J140) (C := (((True ∧ True) ∧ True) ∧ True)) rfl ⟨⟨⟨trivial, trivial⟩, trivial⟩, trivial⟩ ?_
                  refine gv_run 1 true hD (pc' := 293) (lv' := [(0, .inr (.inr (some 0))), (1, .inl v1_33), (2, .inl v2_33), (3, .inl v3_33)]) (st' := [.inl (I139 18 (Int.toNat v1_33)), .inl (64 * v1_33)]) (h' := gz_up (gr_h I139 J140) 18 (Int.toNat v1_33) (.inl (((I139 18 (Int.toNat v1_33)) + 1)))) (C := (True ∧ (0 ≤ v1_33 ∧ v1_33 < ((8 : Nat) : Int)))) rfl ⟨trivial, ⟨by omega, by omega⟩⟩ ?_
                  refine gr_st hI139 FI139 rfl rfl ⟨⟨by show 0 ≤ _; omega, by show _ ≤ 64; omega⟩, trivial⟩ (fun I153 hI153 FI153 q154 p154 => ?_)
                  have t155 := p154 0 71 (fun q => absurd q.1 (by decide))
                  have t156 := p154 0 72 (fun q => absurd q.1 (by decide))
                  have t157 := p154 0 73 (fun q => absurd q.1 (by decide))
                  have t158 := p154 0 69 (fun q => absurd q.1 (by decide))
                  have t159 := p154 0 6 (fun q => absurd q.1 (by decide))
                  have t160 := p154 0 59 (fun q => absurd q.1 (by decide))
                  have f161 := (show 0 ≤ I153 0 71 ∧ I153 0 71 ≤ 5 from (hI153 0 71).1)
                  have f162 := (show 0 ≤ I153 0 72 ∧ I153 0 72 ≤ 1000 from (hI153 0 72).1)
                  have f163 := (show 0 ≤ I153 0 73 ∧ I153 0 73 ≤ 1001 from (hI153 0 73).1)
                  have f164 := (show 0 ≤ I153 0 69 ∧ I153 0 69 ≤ 1000 from (hI153 0 69).1)
                  have f165 := (show (-1) ≤ I153 0 6 ∧ I153 0 6 ≤ 7 from (hI153 0 6).1)
                  have f166 := (show 0 ≤ I153 0 59 ∧ I153 0 59 ≤ 2000 from (hI153 0 59).1)
                  refine gv_run 6 true hD (pc' := 303) (lv' := [(5, .inl ((64 * v1_33) + (I139 18 (Int.toNat v1_33)))), (0, .inr (.inr (some 0))), (1, .inl v1_33), (2, .inl v2_33), (3, .inl v3_33)]) (st' := [.inl v2_33, .inl ((64 * v1_33) + (I139 18 (Int.toNat v1_33))), .inr (.inr (some 36))]) (h' := gr_h I153 J140) (C := ((((((True ∧ True) ∧ True) ∧ True) ∧ True) ∧ True) ∧ True)) rfl ⟨⟨⟨⟨⟨⟨trivial, trivial⟩, trivial⟩, trivial⟩, trivial⟩, trivial⟩, trivial⟩ ?_
                  refine gv_run 1 true hD (pc' := 304) (lv' := [(5, .inl ((64 * v1_33) + (I139 18 (Int.toNat v1_33)))), (0, .inr (.inr (some 0))), (1, .inl v1_33), (2, .inl v2_33), (3, .inl v3_33)]) (st' := []) (h' := gz_up (gr_h I153 J140) 36 (Int.toNat (((64 * v1_33) + (I139 18 (Int.toNat v1_33))))) (.inl v2_33)) (C := (True ∧ (0 ≤ (((64 * v1_33) + (I139 18 (Int.toNat v1_33)))) ∧ (((64 * v1_33) + (I139 18 (Int.toNat v1_33)))) < ((512 : Nat) : Int)))) rfl ⟨trivial, ⟨by omega, by omega⟩⟩ ?_
                  refine gr_st hI153 FI153 rfl rfl ⟨⟨by show 0 ≤ _; omega, by show _ ≤ 95; omega⟩, trivial⟩ (fun I167 hI167 FI167 q168 p168 => ?_)
                  have t169 := p168 0 71 (fun q => absurd q.1 (by decide))
                  have t170 := p168 0 72 (fun q => absurd q.1 (by decide))
                  have t171 := p168 0 73 (fun q => absurd q.1 (by decide))
                  have t172 := p168 0 69 (fun q => absurd q.1 (by decide))
                  have t173 := p168 0 6 (fun q => absurd q.1 (by decide))
                  have t174 := p168 0 59 (fun q => absurd q.1 (by decide))
                  have t175 := p168 18 (Int.toNat v1_33) (fun q => absurd q.1 (by decide))
                  have f176 := (show 0 ≤ I167 0 71 ∧ I167 0 71 ≤ 5 from (hI167 0 71).1)
                  have f177 := (show 0 ≤ I167 0 72 ∧ I167 0 72 ≤ 1000 from (hI167 0 72).1)
                  have f178 := (show 0 ≤ I167 0 73 ∧ I167 0 73 ≤ 1001 from (hI167 0 73).1)
                  have f179 := (show 0 ≤ I167 0 69 ∧ I167 0 69 ≤ 1000 from (hI167 0 69).1)
                  have f180 := (show (-1) ≤ I167 0 6 ∧ I167 0 6 ≤ 7 from (hI167 0 6).1)
                  have f181 := (show 0 ≤ I167 0 59 ∧ I167 0 59 ≤ 2000 from (hI167 0 59).1)
                  refine gv_run 4 true hD (pc' := 311) (lv' := [(5, .inl ((64 * v1_33) + (I139 18 (Int.toNat v1_33)))), (0, .inr (.inr (some 0))), (1, .inl v1_33), (2, .inl v2_33), (3, .inl v3_33)]) (st' := [.inl v3_33, .inl ((64 * v1_33) + (I139 18 (Int.toNat v1_33))), .inr (.inr (some 37))]) (h' := gr_h I167 J140) (C := ((((True ∧ True) ∧ True) ∧ True) ∧ True)) rfl ⟨⟨⟨⟨trivial, trivial⟩, trivial⟩, trivial⟩, trivial⟩ ?_
                  refine gv_run 1 true hD (pc' := 312) (lv' := [(5, .inl ((64 * v1_33) + (I139 18 (Int.toNat v1_33)))), (0, .inr (.inr (some 0))), (1, .inl v1_33), (2, .inl v2_33), (3, .inl v3_33)]) (st' := []) (h' := gz_up (gr_h I167 J140) 37 (Int.toNat (((64 * v1_33) + (I139 18 (Int.toNat v1_33))))) (.inl v3_33)) (C := (True ∧ (0 ≤ (((64 * v1_33) + (I139 18 (Int.toNat v1_33)))) ∧ (((64 * v1_33) + (I139 18 (Int.toNat v1_33)))) < ((512 : Nat) : Int)))) rfl ⟨trivial, ⟨by omega, by omega⟩⟩ ?_
                  refine gr_st hI167 FI167 rfl rfl ⟨⟨by show 0 ≤ _; omega, by show _ ≤ 23; omega⟩, trivial⟩ (fun I182 hI182 FI182 q183 p183 => ?_)
                  have t184 := p183 0 71 (fun q => absurd q.1 (by decide))
                  have t185 := p183 0 72 (fun q => absurd q.1 (by decide))
                  have t186 := p183 0 73 (fun q => absurd q.1 (by decide))
                  have t187 := p183 0 69 (fun q => absurd q.1 (by decide))
                  have t188 := p183 0 6 (fun q => absurd q.1 (by decide))
                  have t189 := p183 0 59 (fun q => absurd q.1 (by decide))
                  have t190 := p183 18 (Int.toNat v1_33) (fun q => absurd q.1 (by decide))
                  have f191 := (show 0 ≤ I182 0 71 ∧ I182 0 71 ≤ 5 from (hI182 0 71).1)
                  have f192 := (show 0 ≤ I182 0 72 ∧ I182 0 72 ≤ 1000 from (hI182 0 72).1)
                  have f193 := (show 0 ≤ I182 0 73 ∧ I182 0 73 ≤ 1001 from (hI182 0 73).1)
                  have f194 := (show 0 ≤ I182 0 69 ∧ I182 0 69 ≤ 1000 from (hI182 0 69).1)
                  have f195 := (show (-1) ≤ I182 0 6 ∧ I182 0 6 ≤ 7 from (hI182 0 6).1)
                  have f196 := (show 0 ≤ I182 0 59 ∧ I182 0 59 ≤ 2000 from (hI182 0 59).1)
                  refine gv_run 2 true hD (pc' := 315) (lv' := [(6, .inl 0), (5, .inl ((64 * v1_33) + (I139 18 (Int.toNat v1_33)))), (0, .inr (.inr (some 0))), (1, .inl v1_33), (2, .inl v2_33), (3, .inl v3_33)]) (st' := []) (h' := gr_h I182 J140) (C := ((True ∧ True) ∧ True)) rfl ⟨⟨trivial, trivial⟩, trivial⟩ ?_
                  refine gv_pick [2, 1, 0] rfl ?_
                  exact L315 _ I182 J140 (((64 * v1_33) + (I139 18 (Int.toNat v1_33)))) 0 (Nat.lt_succ_self _) hI182 FI182 FJ140 ⟨by omega, by omega⟩ ⟨by omega, by omega⟩ (by omega) (by omega) (by omega) (by omega) (by omega) (by omega) (by omega) (by omega) (by omega) (by omega)
                · refine gv_pick [] rfl ?_
                  exact L276 I139 J140 hI139 FI139 FJ140 (by omega) (by omega) (by omega) (by omega) (by omega) (by omega) (by omega) (by omega) (by omega) (by omega)
              refine gv_run 1 true hD (pc' := 247) (lv' := [(0, .inr (.inr (some 0))), (1, .inl v1_33), (2, .inl v2_33), (3, .inl v3_33)]) (st' := [.inr (.inr (some 0))]) (h' := gr_h I56 J57) (C := (True ∧ True)) rfl ⟨trivial, trivial⟩ ?_
              obtain ⟨r197, h197, E197, P197⟩ := r_cost (ws0 := ws0) (tb := tb) hws htb ext I56 J57 hI56   (by omega) (by omega) (by omega) (by omega) (by omega)
              obtain ⟨I198, J199, rfl, hI198, g197, k197, ⟨z197, rfl, q197⟩⟩ := P197
              have FI198 := gr_frt FI56 g197 rfl rfl
              have FJ199 := gr_fjt FJ57 k197 rfl rfl
              have t200 := g197 0 69 rfl
              have t201 := g197 0 6 rfl
              have t202 := g197 0 59 rfl
              have t203 := g197 18 (Int.toNat v1_33) rfl
              have f204 := (show 0 ≤ I198 0 71 ∧ I198 0 71 ≤ 5 from (hI198 0 71).1)
              have f205 := (show 0 ≤ I198 0 72 ∧ I198 0 72 ≤ 1000 from (hI198 0 72).1)
              have f206 := (show 0 ≤ I198 0 73 ∧ I198 0 73 ≤ 1001 from (hI198 0 73).1)
              have f207 := (show 0 ≤ I198 0 69 ∧ I198 0 69 ≤ 1000 from (hI198 0 69).1)
              have f208 := (show (-1) ≤ I198 0 6 ∧ I198 0 6 ≤ 7 from (hI198 0 6).1)
              have f209 := (show 0 ≤ I198 0 59 ∧ I198 0 59 ≤ 2000 from (hI198 0 59).1)
              refine gv_callV hD rfl (As := []) (st := []) rfl (by decide) rfl rfl (gr_lV hws rfl) (Nat.le_of_ble_eq_true rfl) (gz_Ev_mono (d := 11) (by decide) E197) ?_
              show gv_X _ _ (250, [(0, .inr (.inr (some 0))), (1, .inl v1_33), (2, .inl v2_33), (3, .inl v3_33)], [.inl z197], gr_sh ++ ext, gr_h I198 J199)
              refine gv_if_eq (t := 276) hD rfl rfl ⟨by omega, by omega⟩ (fun c210 => ?_) (fun c210 => ?_)
              · refine gv_pick [] rfl ?_
                exact L276 I198 J199 hI198 FI198 FJ199 (by omega) (by omega) (by omega) (by omega) (by omega) (by omega) (by omega) (by omega) (by omega) (by omega)
              · have f211 := (show 0 ≤ I198 18 (Int.toNat v1_33) ∧ I198 18 (Int.toNat v1_33) ≤ 64 from (hI198 18 (Int.toNat v1_33)).1)
                refine gv_run 5 true hD (pc' := 260) (lv' := [(0, .inr (.inr (some 0))), (1, .inl v1_33), (2, .inl v2_33), (3, .inl v3_33)]) (st' := [.inl (I198 18 (Int.toNat v1_33)), .inr (.inr (some 0))]) (h' := gr_h I198 J199) (C := (((((True ∧ True) ∧ True) ∧ True) ∧ True) ∧ (0 ≤ v1_33 ∧ v1_33 < ((8 : Nat) : Int)))) rfl ⟨⟨⟨⟨⟨trivial, trivial⟩, trivial⟩, trivial⟩, trivial⟩, ⟨by omega, by omega⟩⟩ ?_
                refine gv_run 1 true hD (pc' := 262) (lv' := [(0, .inr (.inr (some 0))), (1, .inl v1_33), (2, .inl v2_33), (3, .inl v3_33)]) (st' := [.inl 64, .inl (I198 18 (Int.toNat v1_33)), .inr (.inr (some 0))]) (h' := gr_h I198 J199) (C := (True ∧ True)) rfl ⟨trivial, trivial⟩ ?_
                refine gv_icmp_ge (t := 269) hD rfl rfl ⟨⟨by omega, by omega⟩, ⟨by omega, by omega⟩⟩ (fun c212 => ?_) (fun c212 => ?_)
                · refine gv_run 1 true hD (pc' := 270) (lv' := [(0, .inr (.inr (some 0))), (1, .inl v1_33), (2, .inl v2_33), (3, .inl v3_33)]) (st' := [.inl 0, .inr (.inr (some 0))]) (h' := gr_h I198 J199) (C := (True ∧ True)) rfl ⟨trivial, trivial⟩ ?_
                  exact L270 I198 J199 0 hI198 FI198 FJ199 ⟨by omega, by omega⟩ ⟨by omega, by omega⟩ ⟨by omega, by omega⟩ ⟨by omega, by omega⟩ (by omega) (by omega) (by omega) (by omega) (by omega) (by omega) (by omega) (by omega) (by omega) (by omega) (by omega)
                · refine gv_run 2 true hD (pc' := 270) (lv' := [(0, .inr (.inr (some 0))), (1, .inl v1_33), (2, .inl v2_33), (3, .inl v3_33)]) (st' := [.inl 1, .inr (.inr (some 0))]) (h' := gr_h I198 J199) (C := ((True ∧ True) ∧ True)) rfl ⟨⟨trivial, trivial⟩, trivial⟩ ?_
                  exact L270 I198 J199 1 hI198 FI198 FJ199 ⟨by omega, by omega⟩ ⟨by omega, by omega⟩ ⟨by omega, by omega⟩ ⟨by omega, by omega⟩ (by omega) (by omega) (by omega) (by omega) (by omega) (by omega) (by omega) (by omega) (by omega) (by omega) (by omega)
            have L206 : ∀ (n : Nat) (I213 : gr_I) (J214 : gr_J) (v5_215 : Int), (1001 - I213 0 72).toNat < n → gr_Inv I213 → gr_fr [59, 71, 72, 73, 74, 75, 76, 77, 101, 106] [18, 36, 37, 38, 39, 40, 51, 57, 67] I I213 → gr_fj [59, 71, 72, 73, 74, 75, 76, 77, 101, 106] [18, 36, 37, 38, 39, 40, 51, 57, 67] J J214 → 0 ≤ v1_33 ∧ v1_33 ≤ 7 → 0 ≤ v2_33 ∧ v2_33 ≤ 95 → 0 ≤ v3_33 ∧ v3_33 ≤ 23 → 0 ≤ v5_215 ∧ v5_215 ≤ 1 → (I213 0 71 = 5 ∨ I213 0 73 ≤ I213 0 69) → (I213 0 72 ≤ I213 0 69) → (I213 0 71 = 0 ∨ (I213 0 72 < I213 0 73 ∧ I213 0 72 < I213 0 69)) → (I213 0 71 = 3 → 2 ≤ I213 0 73 - I213 0 72 ∧ I213 0 73 - I213 0 72 ≤ 14) → (I213 0 72 ≤ I213 0 73) → (I213 0 69 = I 0 69) → (I 0 73 ≤ I213 0 73) → (I 0 72 ≤ I213 0 72) → (I213 0 6 = I 0 6) → (I213 0 59 - I213 0 72 ≤ I 0 59 - I 0 72) → gv_X (gr_E ws0 tb 11 (yX13_wordOf, cX13_wordOf, 7, (some .boolean)) kX13_wordOf) (gv_Q cX13_wordOf (some .boolean) (gr_sh ++ ext) (fun r h' => (∃ (I' : gr_I) (J' : gr_J), h' = gr_h I' J' ∧ gr_Inv I' ∧ gr_fr [59, 71, 72, 73, 74, 75, 76, 77, 101, 106] [18, 36, 37, 38, 39, 40, 51, 57, 67] I I' ∧ gr_fj [59, 71, 72, 73, 74, 75, 76, 77, 101, 106] [18, 36, 37, 38, 39, 40, 51, 57, 67] J J' ∧ (∃ z : Int, r = some (.inl z) ∧ 0 ≤ z ∧ z ≤ 1 ∧ (I' 0 71 = 5 ∨ I' 0 73 ≤ I' 0 69) ∧ (I' 0 72 ≤ I' 0 69) ∧ (I' 0 71 = 0 ∨ (I' 0 72 < I' 0 73 ∧ I' 0 72 < I' 0 69)) ∧ (I' 0 71 = 3 → 2 ≤ I' 0 73 - I' 0 72 ∧ I' 0 73 - I' 0 72 ≤ 14) ∧ (I' 0 72 ≤ I' 0 73) ∧ (I' 0 69 = I 0 69) ∧ (I 0 73 ≤ I' 0 73) ∧ (I 0 72 ≤ I' 0 72) ∧ (I' 0 59 - I' 0 72 ≤ I 0 59 - I 0 72))))) (206, [(0, .inr (.inr (some 0))), (1, .inl v1_33), (2, .inl v2_33), (3, .inl v3_33), (5, .inl v5_215)], [], gr_sh ++ ext, gr_h I213 J214) := by
              intro n
              induction n with
              | zero => intro I213 J214 v5_215 hn; omega
              | succ n ih206 =>
                intro I213 J214 v5_215 hn hI213 FI213 FJ214 hv1_33_215 hv2_33_215 hv3_33_215 hv5_215 e0_215 e1_215 e2_215 e3_215 e4_215 e5_215 e6_215 e7_215 e8_215 e9_215
                have f216 := (show 0 ≤ I213 0 71 ∧ I213 0 71 ≤ 5 from (hI213 0 71).1)
                have f217 := (show 0 ≤ I213 0 72 ∧ I213 0 72 ≤ 1000 from (hI213 0 72).1)
                have f218 := (show 0 ≤ I213 0 73 ∧ I213 0 73 ≤ 1001 from (hI213 0 73).1)
                have f219 := (show 0 ≤ I213 0 69 ∧ I213 0 69 ≤ 1000 from (hI213 0 69).1)
                have f220 := (show (-1) ≤ I213 0 6 ∧ I213 0 6 ≤ 7 from (hI213 0 6).1)
                have f221 := (show 0 ≤ I213 0 59 ∧ I213 0 59 ≤ 2000 from (hI213 0 59).1)
                have L231 : 0 ≤ v1_33 ∧ v1_33 ≤ 7 → 0 ≤ v2_33 ∧ v2_33 ≤ 95 → 0 ≤ v3_33 ∧ v3_33 ≤ 23 → (I213 0 71 = 1) → (I213 0 71 = 5 ∨ I213 0 73 ≤ I213 0 69) → (I213 0 72 ≤ I213 0 69) → (I213 0 71 = 0 ∨ (I213 0 72 < I213 0 73 ∧ I213 0 72 < I213 0 69)) → (I213 0 71 = 3 → 2 ≤ I213 0 73 - I213 0 72 ∧ I213 0 73 - I213 0 72 ≤ 14) → (I213 0 72 ≤ I213 0 73) → (I213 0 69 = I 0 69) → (I 0 73 ≤ I213 0 73) → (I 0 72 ≤ I213 0 72) → (I213 0 6 = I 0 6) → (I213 0 59 - I213 0 72 ≤ I 0 59 - I 0 72) → gv_X (gr_E ws0 tb 11 (yX13_wordOf, cX13_wordOf, 7, (some .boolean)) kX13_wordOf) (gv_Q cX13_wordOf (some .boolean) (gr_sh ++ ext) (fun r h' => (∃ (I' : gr_I) (J' : gr_J), h' = gr_h I' J' ∧ gr_Inv I' ∧ gr_fr [59, 71, 72, 73, 74, 75, 76, 77, 101, 106] [18, 36, 37, 38, 39, 40, 51, 57, 67] I I' ∧ gr_fj [59, 71, 72, 73, 74, 75, 76, 77, 101, 106] [18, 36, 37, 38, 39, 40, 51, 57, 67] J J' ∧ (∃ z : Int, r = some (.inl z) ∧ 0 ≤ z ∧ z ≤ 1 ∧ (I' 0 71 = 5 ∨ I' 0 73 ≤ I' 0 69) ∧ (I' 0 72 ≤ I' 0 69) ∧ (I' 0 71 = 0 ∨ (I' 0 72 < I' 0 73 ∧ I' 0 72 < I' 0 69)) ∧ (I' 0 71 = 3 → 2 ≤ I' 0 73 - I' 0 72 ∧ I' 0 73 - I' 0 72 ≤ 14) ∧ (I' 0 72 ≤ I' 0 73) ∧ (I' 0 69 = I 0 69) ∧ (I 0 73 ≤ I' 0 73) ∧ (I 0 72 ≤ I' 0 72) ∧ (I' 0 59 - I' 0 72 ≤ I 0 59 - I 0 72))))) (231, [(0, .inr (.inr (some 0))), (1, .inl v1_33), (2, .inl v2_33), (3, .inl v3_33)], [], gr_sh ++ ext, gr_h I213 J214) := by
                  intro hv1_33_222 hv2_33_222 hv3_33_222 e0_222 e1_222 e2_222 e3_222 e4_222 e5_222 e6_222 e7_222 e8_222 e9_222 e10_222
                  have f223 := (show 0 ≤ I213 0 71 ∧ I213 0 71 ≤ 5 from (hI213 0 71).1)
                  have f224 := (show 0 ≤ I213 0 72 ∧ I213 0 72 ≤ 1000 from (hI213 0 72).1)
                  have f225 := (show 0 ≤ I213 0 73 ∧ I213 0 73 ≤ 1001 from (hI213 0 73).1)
                  have f226 := (show 0 ≤ I213 0 69 ∧ I213 0 69 ≤ 1000 from (hI213 0 69).1)
                  have f227 := (show (-1) ≤ I213 0 6 ∧ I213 0 6 ≤ 7 from (hI213 0 6).1)
                  have f228 := (show 0 ≤ I213 0 59 ∧ I213 0 59 ≤ 2000 from (hI213 0 59).1)
                  refine gv_run 1 true hD (pc' := 232) (lv' := [(0, .inr (.inr (some 0))), (1, .inl v1_33), (2, .inl v2_33), (3, .inl v3_33)]) (st' := [.inr (.inr (some 0))]) (h' := gr_h I213 J214) (C := (True ∧ True)) rfl ⟨trivial, trivial⟩ ?_
                  obtain ⟨r229, h229, E229, P229⟩ := r_oneValue (ws0 := ws0) (tb := tb) hws htb ext I213 J214 hI213   (by omega) (by omega) (by omega) (by omega) (by omega) (by omega) (by omega)
                  obtain ⟨I230, J231, rfl, hI230, g229, k229, ⟨z229, rfl, q229⟩⟩ := P229
                  have FI230 := gr_frt FI213 g229 rfl rfl
                  have FJ231 := gr_fjt FJ214 k229 rfl rfl
                  have t232 := g229 0 69 rfl
                  have t233 := g229 0 6 rfl
                  have t234 := g229 0 59 rfl
                  have t235 := g229 18 (Int.toNat v1_33) rfl
                  have f236 := (show 0 ≤ I230 0 71 ∧ I230 0 71 ≤ 5 from (hI230 0 71).1)
                  have f237 := (show 0 ≤ I230 0 72 ∧ I230 0 72 ≤ 1000 from (hI230 0 72).1)
                  have f238 := (show 0 ≤ I230 0 73 ∧ I230 0 73 ≤ 1001 from (hI230 0 73).1)
                  have f239 := (show 0 ≤ I230 0 69 ∧ I230 0 69 ≤ 1000 from (hI230 0 69).1)
                  have f240 := (show (-1) ≤ I230 0 6 ∧ I230 0 6 ≤ 7 from (hI230 0 6).1)
                  have f241 := (show 0 ≤ I230 0 59 ∧ I230 0 59 ≤ 2000 from (hI230 0 59).1)
                  refine gv_callV hD rfl (As := []) (st := []) rfl (by decide) rfl rfl (gr_lV hws rfl) (Nat.le_of_ble_eq_true rfl) (gz_Ev_mono (d := 11) (by decide) E229) ?_
                  show gv_X _ _ (235, [(0, .inr (.inr (some 0))), (1, .inl v1_33), (2, .inl v2_33), (3, .inl v3_33)], [.inl z229], gr_sh ++ ext, gr_h I230 J231)
                  refine gv_if_ne (t := 240) hD rfl rfl ⟨by omega, by omega⟩ (fun c242 => ?_) (fun c242 => ?_)
                  · refine gv_run 3 true hD (pc' := 206) (lv' := [(5, .inl 0), (0, .inr (.inr (some 0))), (1, .inl v1_33), (2, .inl v2_33), (3, .inl v3_33)]) (st' := []) (h' := gr_h I230 J231) (C := (((True ∧ True) ∧ True) ∧ True)) rfl ⟨⟨⟨trivial, trivial⟩, trivial⟩, trivial⟩ ?_
                    refine gv_pick [1, 2, 3, 4, 0] rfl ?_
                    exact ih206 I230 J231 0 (by omega) hI230 FI230 FJ231 ⟨by omega, by omega⟩ ⟨by omega, by omega⟩ ⟨by omega, by omega⟩ ⟨by omega, by omega⟩ (by omega) (by omega) (by omega) (by omega) (by omega) (by omega) (by omega) (by omega) (by omega) (by omega)
                  · refine gv_run 1 true hD (pc' := 239) (lv' := [(0, .inr (.inr (some 0))), (1, .inl v1_33), (2, .inl v2_33), (3, .inl v3_33)]) (st' := [.inl 0]) (h' := gr_h I230 J231) (C := (True ∧ True)) rfl ⟨trivial, trivial⟩ ?_
                    exact gv_zret hD rfl (by omega) ⟨I230, J231, rfl, hI230, FI230, FJ231, ⟨_, rfl, by omega, by omega, by omega, by omega, by omega, by omega, by omega, by omega, by omega, by omega, by omega⟩⟩
                have f243 := (show 0 ≤ I213 0 71 ∧ I213 0 71 ≤ 5 from (hI213 0 71).1)
                refine gv_run 3 true hD (pc' := 211) (lv' := [(0, .inr (.inr (some 0))), (1, .inl v1_33), (2, .inl v2_33), (3, .inl v3_33), (5, .inl v5_215)]) (st' := [.inl 1, .inl (I213 0 71)]) (h' := gr_h I213 J214) (C := (((True ∧ True) ∧ True) ∧ True)) rfl ⟨⟨⟨trivial, trivial⟩, trivial⟩, trivial⟩ ?_
                refine gv_icmp_ne (t := 246) hD rfl rfl ⟨⟨by omega, by omega⟩, ⟨by omega, by omega⟩⟩ (fun c244 => ?_) (fun c244 => ?_)
                · refine gv_pick [0, 1, 2, 3] rfl ?_
                  exact L246 I213 J214 hI213 FI213 FJ214 ⟨by omega, by omega⟩ ⟨by omega, by omega⟩ ⟨by omega, by omega⟩ (by omega) (by omega) (by omega) (by omega) (by omega) (by omega) (by omega) (by omega) (by omega) (by omega)
                · refine gv_run 1 true hD (pc' := 216) (lv' := [(0, .inr (.inr (some 0))), (1, .inl v1_33), (2, .inl v2_33), (3, .inl v3_33), (5, .inl v5_215)]) (st' := [.inl v5_215]) (h' := gr_h I213 J214) (C := (True ∧ True)) rfl ⟨trivial, trivial⟩ ?_
                  refine gv_if_ne (t := 231) hD rfl rfl ⟨by omega, by omega⟩ (fun c245 => ?_) (fun c245 => ?_)
                  · refine gv_pick [0, 1, 2, 3] rfl ?_
                    exact L231 ⟨by omega, by omega⟩ ⟨by omega, by omega⟩ ⟨by omega, by omega⟩ (by omega) (by omega) (by omega) (by omega) (by omega) (by omega) (by omega) (by omega) (by omega) (by omega) (by omega)
                  · have f246 := gw_cmp ((J214 0 75)) ((J214 0 92))
                    refine gv_run 5 true hD (pc' := 228) (lv' := [(0, .inr (.inr (some 0))), (1, .inl v1_33), (2, .inl v2_33), (3, .inl v3_33), (5, .inl v5_215)]) (st' := [.inl ((lg_cmp ((J214 0 75)) ((J214 0 92))).toInt)]) (h' := gr_h I213 J214) (C := (((((True ∧ True) ∧ True) ∧ True) ∧ True) ∧ True)) rfl ⟨⟨⟨⟨⟨trivial, trivial⟩, trivial⟩, trivial⟩, trivial⟩, trivial⟩ ?_
                    refine gv_if_eq (t := 246) hD rfl rfl ⟨by omega, by omega⟩ (fun c247 => ?_) (fun c247 => ?_)
                    · refine gv_pick [0, 1, 2, 3] rfl ?_
                      exact L246 I213 J214 hI213 FI213 FJ214 ⟨by omega, by omega⟩ ⟨by omega, by omega⟩ ⟨by omega, by omega⟩ (by omega) (by omega) (by omega) (by omega) (by omega) (by omega) (by omega) (by omega) (by omega) (by omega)
                    · refine gv_pick [0, 1, 2, 3] rfl ?_
                      exact L231 ⟨by omega, by omega⟩ ⟨by omega, by omega⟩ ⟨by omega, by omega⟩ (by omega) (by omega) (by omega) (by omega) (by omega) (by omega) (by omega) (by omega) (by omega) (by omega) (by omega)
            refine gv_run 3 true hD (pc' := 179) (lv' := [(0, .inr (.inr (some 0))), (1, .inl v1_33), (2, .inl v2_33), (3, .inl v3_33)]) (st' := []) (h' := gz_up (gr_h I40 J41) 0 106 (.inl 0)) (C := (((True ∧ True) ∧ True) ∧ True)) rfl ⟨⟨⟨trivial, trivial⟩, trivial⟩, trivial⟩ ?_
            refine gr_st hI40 FI40 rfl rfl ⟨⟨by show 0 ≤ _; omega, by show _ ≤ 16777215; omega⟩, trivial⟩ (fun I248 hI248 FI248 q249 p249 => ?_)
            have t250 := p249 0 71 (by decide)
            have t251 := p249 0 72 (by decide)
            have t252 := p249 0 73 (by decide)
            have t253 := p249 0 69 (by decide)
            have t254 := p249 0 6 (by decide)
            have t255 := p249 0 59 (by decide)
            have t256 := p249 18 (Int.toNat v1_33) (fun q => absurd q.1 (by decide))
            have f257 := (show 0 ≤ I248 0 71 ∧ I248 0 71 ≤ 5 from (hI248 0 71).1)
            have f258 := (show 0 ≤ I248 0 72 ∧ I248 0 72 ≤ 1000 from (hI248 0 72).1)
            have f259 := (show 0 ≤ I248 0 73 ∧ I248 0 73 ≤ 1001 from (hI248 0 73).1)
            have f260 := (show 0 ≤ I248 0 69 ∧ I248 0 69 ≤ 1000 from (hI248 0 69).1)
            have f261 := (show (-1) ≤ I248 0 6 ∧ I248 0 6 ≤ 7 from (hI248 0 6).1)
            have f262 := (show 0 ≤ I248 0 59 ∧ I248 0 59 ≤ 2000 from (hI248 0 59).1)
            refine gv_run 3 true hD (pc' := 184) (lv' := [(0, .inr (.inr (some 0))), (1, .inl v1_33), (2, .inl v2_33), (3, .inl v3_33)]) (st' := [.inr (.inl (J41 0 93)), .inr (.inr (some 0))]) (h' := gr_h I248 J41) (C := (((True ∧ True) ∧ True) ∧ True)) rfl ⟨⟨⟨trivial, trivial⟩, trivial⟩, trivial⟩ ?_
            obtain ⟨r263, h263, E263, P263⟩ := r_is (ws0 := ws0) (tb := tb) hws htb ext I248 J41 hI248 (J41 0 93)  
            obtain ⟨rfl, ⟨z263, rfl, q263⟩⟩ := P263
            refine gv_callV hD rfl (As := [.inr (.inl (J41 0 93))]) (st := []) rfl (by decide) rfl rfl (gr_lV hws rfl) (Nat.le_of_ble_eq_true rfl) (gz_Ev_mono (d := 1) (by decide) E263) ?_
            show gv_X _ _ (187, [(0, .inr (.inr (some 0))), (1, .inl v1_33), (2, .inl v2_33), (3, .inl v3_33)], [.inl z263], gr_sh ++ ext, gr_h I248 J41)
            refine gv_if_eq (t := 246) hD rfl rfl ⟨by omega, by omega⟩ (fun c264 => ?_) (fun c264 => ?_)
            · exact L246 I248 J41 hI248 FI248 FJ41 ⟨by omega, by omega⟩ ⟨by omega, by omega⟩ ⟨by omega, by omega⟩ (by omega) (by omega) (by omega) (by omega) (by omega) (by omega) (by omega) (by omega) (by omega) (by omega)
            · refine gv_run 1 true hD (pc' := 191) (lv' := [(0, .inr (.inr (some 0))), (1, .inl v1_33), (2, .inl v2_33), (3, .inl v3_33)]) (st' := [.inr (.inr (some 0))]) (h' := gr_h I248 J41) (C := (True ∧ True)) rfl ⟨trivial, trivial⟩ ?_
              obtain ⟨r265, h265, E265, P265⟩ := r_next (ws0 := ws0) (tb := tb) hws htb ext I248 J41 hI248   (by omega)
              obtain ⟨I266, J267, rfl, hI266, g265, k265, ⟨rfl, q265⟩⟩ := P265
              have FI266 := gr_frt FI248 g265 rfl rfl
              have FJ267 := gr_fjt FJ41 k265 rfl rfl
              have t268 := g265 0 69 rfl
              have t269 := g265 0 6 rfl
              have t270 := g265 0 59 rfl
              have t271 := g265 18 (Int.toNat v1_33) rfl
              have f272 := (show 0 ≤ I266 0 71 ∧ I266 0 71 ≤ 5 from (hI266 0 71).1)
              have f273 := (show 0 ≤ I266 0 72 ∧ I266 0 72 ≤ 1000 from (hI266 0 72).1)
              have f274 := (show 0 ≤ I266 0 73 ∧ I266 0 73 ≤ 1001 from (hI266 0 73).1)
              have f275 := (show 0 ≤ I266 0 69 ∧ I266 0 69 ≤ 1000 from (hI266 0 69).1)
              have f276 := (show (-1) ≤ I266 0 6 ∧ I266 0 6 ≤ 7 from (hI266 0 6).1)
              have f277 := (show 0 ≤ I266 0 59 ∧ I266 0 59 ≤ 2000 from (hI266 0 59).1)
              refine gv_callV hD rfl (As := []) (st := []) rfl (by decide) rfl rfl (gr_lV hws rfl) (Nat.le_of_ble_eq_true rfl) (gz_Ev_mono (d := 10) (by decide) E265) ?_
              show gv_X _ _ (194, [(0, .inr (.inr (some 0))), (1, .inl v1_33), (2, .inl v2_33), (3, .inl v3_33)], [], gr_sh ++ ext, gr_h I266 J267)
              refine gv_run 1 true hD (pc' := 195) (lv' := [(0, .inr (.inr (some 0))), (1, .inl v1_33), (2, .inl v2_33), (3, .inl v3_33)]) (st' := [.inr (.inr (some 0))]) (h' := gr_h I266 J267) (C := (True ∧ True)) rfl ⟨trivial, trivial⟩ ?_
              obtain ⟨r278, h278, E278, P278⟩ := r_name (ws0 := ws0) (tb := tb) hws htb ext I266 J267 hI266   
              obtain ⟨I279, J280, rfl, hI279, g278, k278, ⟨z278, rfl, q278⟩⟩ := P278
              have FI279 := gr_frt FI266 g278 rfl rfl
              have FJ280 := gr_fjt FJ267 k278 rfl rfl
              have t281 := g278 0 71 rfl
              have t282 := g278 0 72 rfl
              have t283 := g278 0 73 rfl
              have t284 := g278 0 69 rfl
              have t285 := g278 0 6 rfl
              have t286 := g278 0 59 rfl
              have t287 := g278 18 (Int.toNat v1_33) rfl
              have f288 := (show 0 ≤ I279 0 71 ∧ I279 0 71 ≤ 5 from (hI279 0 71).1)
              have f289 := (show 0 ≤ I279 0 72 ∧ I279 0 72 ≤ 1000 from (hI279 0 72).1)
              have f290 := (show 0 ≤ I279 0 73 ∧ I279 0 73 ≤ 1001 from (hI279 0 73).1)
              have f291 := (show 0 ≤ I279 0 69 ∧ I279 0 69 ≤ 1000 from (hI279 0 69).1)
              have f292 := (show (-1) ≤ I279 0 6 ∧ I279 0 6 ≤ 7 from (hI279 0 6).1)
              have f293 := (show 0 ≤ I279 0 59 ∧ I279 0 59 ≤ 2000 from (hI279 0 59).1)
              refine gv_callV hD rfl (As := []) (st := []) rfl (by decide) rfl rfl (gr_lV hws rfl) (Nat.le_of_ble_eq_true rfl) (gz_Ev_mono (d := 3) (by decide) E278) ?_
              show gv_X _ _ (198, [(0, .inr (.inr (some 0))), (1, .inl v1_33), (2, .inl v2_33), (3, .inl v3_33)], [.inl z278], gr_sh ++ ext, gr_h I279 J280)
              refine gv_if_ne (t := 203) hD rfl rfl ⟨by omega, by omega⟩ (fun c294 => ?_) (fun c294 => ?_)
              · refine gv_run 2 true hD (pc' := 206) (lv' := [(5, .inl 1), (0, .inr (.inr (some 0))), (1, .inl v1_33), (2, .inl v2_33), (3, .inl v3_33)]) (st' := []) (h' := gr_h I279 J280) (C := ((True ∧ True) ∧ True)) rfl ⟨⟨trivial, trivial⟩, trivial⟩ ?_
                refine gv_pick [1, 2, 3, 4, 0] rfl ?_
                exact L206 _ I279 J280 1 (Nat.lt_succ_self _) hI279 FI279 FJ280 ⟨by omega, by omega⟩ ⟨by omega, by omega⟩ ⟨by omega, by omega⟩ ⟨by omega, by omega⟩ (by omega) (by omega) (by omega) (by omega) (by omega) (by omega) (by omega) (by omega) (by omega) (by omega)
              · refine gv_run 1 true hD (pc' := 202) (lv' := [(0, .inr (.inr (some 0))), (1, .inl v1_33), (2, .inl v2_33), (3, .inl v3_33)]) (st' := [.inl 0]) (h' := gr_h I279 J280) (C := (True ∧ True)) rfl ⟨trivial, trivial⟩ ?_
                exact gv_zret hD rfl (by omega) ⟨I279, J280, rfl, hI279, FI279, FJ280, ⟨_, rfl, by omega, by omega, by omega, by omega, by omega, by omega, by omega, by omega, by omega, by omega, by omega⟩⟩
          have f295 := (show 0 ≤ I40 0 71 ∧ I40 0 71 ≤ 5 from (hI40 0 71).1)
          refine gv_run 3 true hD (pc' := 144) (lv' := [(0, .inr (.inr (some 0))), (1, .inl v1_33), (2, .inl v2_33), (3, .inl v3_33), (4, .inl v4_42)]) (st' := [.inl 3, .inl (I40 0 71)]) (h' := gr_h I40 J41) (C := (((True ∧ True) ∧ True) ∧ True)) rfl ⟨⟨⟨trivial, trivial⟩, trivial⟩, trivial⟩ ?_
          refine gv_icmp_ne (t := 174) hD rfl rfl ⟨⟨by omega, by omega⟩, ⟨by omega, by omega⟩⟩ (fun c296 => ?_) (fun c296 => ?_)
          · refine gv_pick [0, 1, 2, 3] rfl ?_
            exact L174 ⟨by omega, by omega⟩ ⟨by omega, by omega⟩ ⟨by omega, by omega⟩ (by omega) (by omega) (by omega) (by omega) (by omega) (by omega) (by omega) (by omega) (by omega) (by omega)
          · refine gv_run 2 true hD (pc' := 150) (lv' := [(0, .inr (.inr (some 0))), (1, .inl v1_33), (2, .inl v2_33), (3, .inl v3_33), (4, .inl v4_42)]) (st' := [.inl 3, .inl v4_42]) (h' := gr_h I40 J41) (C := ((True ∧ True) ∧ True)) rfl ⟨⟨trivial, trivial⟩, trivial⟩ ?_
            refine gv_icmp_ge (t := 174) hD rfl rfl ⟨⟨by omega, by omega⟩, ⟨by omega, by omega⟩⟩ (fun c297 => ?_) (fun c297 => ?_)
            · refine gv_pick [0, 1, 2, 3] rfl ?_
              exact L174 ⟨by omega, by omega⟩ ⟨by omega, by omega⟩ ⟨by omega, by omega⟩ (by omega) (by omega) (by omega) (by omega) (by omega) (by omega) (by omega) (by omega) (by omega) (by omega)
            · refine gv_run 5 true hD (pc' := 163) (lv' := [(4, .inl (v4_42 + 1)), (0, .inr (.inr (some 0))), (1, .inl v1_33), (2, .inl v2_33), (3, .inl v3_33)]) (st' := [.inr (.inr (some 0)), .inl v4_42, .inr (.inr (some 67))]) (h' := gr_h I40 J41) (C := (((((True ∧ True) ∧ True) ∧ True) ∧ True) ∧ True)) rfl ⟨⟨⟨⟨⟨trivial, trivial⟩, trivial⟩, trivial⟩, trivial⟩, trivial⟩ ?_
              obtain ⟨r298, h298, E298, P298⟩ := r_keeps (ws0 := ws0) (tb := tb) hws htb ext I40 J41 hI40   (by omega) (by omega) (by omega) (by omega)
              obtain ⟨I299, J300, rfl, hI299, g298, k298, ⟨z298, rfl, q298⟩⟩ := P298
              have FI299 := gr_frt FI40 g298 rfl rfl
              have FJ300 := gr_fjt FJ41 k298 rfl rfl
              have t301 := g298 0 71 rfl
              have t302 := g298 0 72 rfl
              have t303 := g298 0 73 rfl
              have t304 := g298 0 69 rfl
              have t305 := g298 0 6 rfl
              have t306 := g298 18 (Int.toNat v1_33) rfl
              have f307 := (show 0 ≤ I299 0 71 ∧ I299 0 71 ≤ 5 from (hI299 0 71).1)
              have f308 := (show 0 ≤ I299 0 72 ∧ I299 0 72 ≤ 1000 from (hI299 0 72).1)
              have f309 := (show 0 ≤ I299 0 73 ∧ I299 0 73 ≤ 1001 from (hI299 0 73).1)
              have f310 := (show 0 ≤ I299 0 69 ∧ I299 0 69 ≤ 1000 from (hI299 0 69).1)
              have f311 := (show (-1) ≤ I299 0 6 ∧ I299 0 6 ≤ 7 from (hI299 0 6).1)
              have f312 := (show 0 ≤ I299 0 59 ∧ I299 0 59 ≤ 2000 from (hI299 0 59).1)
              refine gv_callV hD rfl (As := []) (st := [.inl v4_42, .inr (.inr (some 67))]) rfl (by decide) rfl rfl (gr_lV hws rfl) (Nat.le_of_ble_eq_true rfl) (gz_Ev_mono (d := 2) (by decide) E298) ?_
              show gv_X _ _ (166, [(4, .inl (v4_42 + 1)), (0, .inr (.inr (some 0))), (1, .inl v1_33), (2, .inl v2_33), (3, .inl v3_33)], [.inl z298, .inl v4_42, .inr (.inr (some 67))], gr_sh ++ ext, gr_h I299 J300)
              refine gv_run 1 true hD (pc' := 167) (lv' := [(4, .inl (v4_42 + 1)), (0, .inr (.inr (some 0))), (1, .inl v1_33), (2, .inl v2_33), (3, .inl v3_33)]) (st' := []) (h' := gz_up (gr_h I299 J300) 67 (Int.toNat v4_42) (.inl z298)) (C := (True ∧ (0 ≤ v4_42 ∧ v4_42 < ((3 : Nat) : Int)))) rfl ⟨trivial, ⟨by omega, by omega⟩⟩ ?_
              refine gr_st hI299 FI299 rfl rfl ⟨⟨by show (-1) ≤ _; omega, by show _ ≤ 32015; omega⟩, trivial⟩ (fun I313 hI313 FI313 q314 p314 => ?_)
              have t315 := p314 0 71 (fun q => absurd q.1 (by decide))
              have t316 := p314 0 72 (fun q => absurd q.1 (by decide))
              have t317 := p314 0 73 (fun q => absurd q.1 (by decide))
              have t318 := p314 0 69 (fun q => absurd q.1 (by decide))
              have t319 := p314 0 6 (fun q => absurd q.1 (by decide))
              have t320 := p314 0 59 (fun q => absurd q.1 (by decide))
              have t321 := p314 18 (Int.toNat v1_33) (fun q => absurd q.1 (by decide))
              have f322 := (show 0 ≤ I313 0 71 ∧ I313 0 71 ≤ 5 from (hI313 0 71).1)
              have f323 := (show 0 ≤ I313 0 72 ∧ I313 0 72 ≤ 1000 from (hI313 0 72).1)
              have f324 := (show 0 ≤ I313 0 73 ∧ I313 0 73 ≤ 1001 from (hI313 0 73).1)
              have f325 := (show 0 ≤ I313 0 69 ∧ I313 0 69 ≤ 1000 from (hI313 0 69).1)
              have f326 := (show (-1) ≤ I313 0 6 ∧ I313 0 6 ≤ 7 from (hI313 0 6).1)
              have f327 := (show 0 ≤ I313 0 59 ∧ I313 0 59 ≤ 2000 from (hI313 0 59).1)
              refine gv_run 1 true hD (pc' := 168) (lv' := [(4, .inl (v4_42 + 1)), (0, .inr (.inr (some 0))), (1, .inl v1_33), (2, .inl v2_33), (3, .inl v3_33)]) (st' := [.inr (.inr (some 0))]) (h' := gr_h I313 J300) (C := (True ∧ True)) rfl ⟨trivial, trivial⟩ ?_
              obtain ⟨r328, h328, E328, P328⟩ := r_next (ws0 := ws0) (tb := tb) hws htb ext I313 J300 hI313   (by omega)
              obtain ⟨I329, J330, rfl, hI329, g328, k328, ⟨rfl, q328⟩⟩ := P328
              have FI329 := gr_frt FI313 g328 rfl rfl
              have FJ330 := gr_fjt FJ300 k328 rfl rfl
              have t331 := g328 0 69 rfl
              have t332 := g328 0 6 rfl
              have t333 := g328 0 59 rfl
              have t334 := g328 18 (Int.toNat v1_33) rfl
              have f335 := (show 0 ≤ I329 0 71 ∧ I329 0 71 ≤ 5 from (hI329 0 71).1)
              have f336 := (show 0 ≤ I329 0 72 ∧ I329 0 72 ≤ 1000 from (hI329 0 72).1)
              have f337 := (show 0 ≤ I329 0 73 ∧ I329 0 73 ≤ 1001 from (hI329 0 73).1)
              have f338 := (show 0 ≤ I329 0 69 ∧ I329 0 69 ≤ 1000 from (hI329 0 69).1)
              have f339 := (show (-1) ≤ I329 0 6 ∧ I329 0 6 ≤ 7 from (hI329 0 6).1)
              have f340 := (show 0 ≤ I329 0 59 ∧ I329 0 59 ≤ 2000 from (hI329 0 59).1)
              refine gv_callV hD rfl (As := []) (st := []) rfl (by decide) rfl rfl (gr_lV hws rfl) (Nat.le_of_ble_eq_true rfl) (gz_Ev_mono (d := 10) (by decide) E328) ?_
              show gv_X _ _ (171, [(4, .inl (v4_42 + 1)), (0, .inr (.inr (some 0))), (1, .inl v1_33), (2, .inl v2_33), (3, .inl v3_33)], [], gr_sh ++ ext, gr_h I329 J330)
              refine gv_run 1 true hD (pc' := 139) (lv' := [(4, .inl (v4_42 + 1)), (0, .inr (.inr (some 0))), (1, .inl v1_33), (2, .inl v2_33), (3, .inl v3_33)]) (st' := []) (h' := gr_h I329 J330) (C := (True ∧ True)) rfl ⟨trivial, trivial⟩ ?_
              refine gv_pick [1, 2, 3, 4, 0] rfl ?_
              exact ih139 I329 J330 (v4_42 + 1) (by omega) hI329 FI329 FJ330 ⟨by omega, by omega⟩ ⟨by omega, by omega⟩ ⟨by omega, by omega⟩ ⟨by omega, by omega⟩ (by omega) (by omega) (by omega) (by omega) (by omega) (by omega) (by omega) (by omega) (by omega) (by omega)
      refine gv_run 2 true hD (pc' := 122) (lv' := [(0, .inr (.inr (some 0))), (1, .inl v1_33), (2, .inl v2_33), (3, .inl v3_33), (4, .inl v4_33), (5, .inl v5_33)]) (st' := [.inl 3, .inl v5_33]) (h' := gr_h I31 J32) (C := ((True ∧ True) ∧ True)) rfl ⟨⟨trivial, trivial⟩, trivial⟩ ?_
      refine gv_icmp_ge (t := 139) hD rfl rfl ⟨⟨by omega, by omega⟩, ⟨by omega, by omega⟩⟩ (fun c341 => ?_) (fun c341 => ?_)
      · refine gv_pick [0, 1, 2, 3, 4] rfl ?_
        exact L139 _ I31 J32 v4_33 (Nat.lt_succ_self _) hI31 FI31 FJ32 ⟨by omega, by omega⟩ ⟨by omega, by omega⟩ ⟨by omega, by omega⟩ ⟨by omega, by omega⟩ (by omega) (by omega) (by omega) (by omega) (by omega) (by omega) (by omega) (by omega) (by omega) (by omega)
      · refine gv_run 4 true hD (pc' := 132) (lv' := [(0, .inr (.inr (some 0))), (1, .inl v1_33), (2, .inl v2_33), (3, .inl v3_33), (4, .inl v4_33), (5, .inl v5_33)]) (st' := [.inl (-1), .inl v5_33, .inr (.inr (some 67))]) (h' := gr_h I31 J32) (C := ((((True ∧ True) ∧ True) ∧ True) ∧ True)) rfl ⟨⟨⟨⟨trivial, trivial⟩, trivial⟩, trivial⟩, trivial⟩ ?_
        refine gv_run 1 true hD (pc' := 133) (lv' := [(0, .inr (.inr (some 0))), (1, .inl v1_33), (2, .inl v2_33), (3, .inl v3_33), (4, .inl v4_33), (5, .inl v5_33)]) (st' := []) (h' := gz_up (gr_h I31 J32) 67 (Int.toNat v5_33) (.inl (-1))) (C := (True ∧ (0 ≤ v5_33 ∧ v5_33 < ((3 : Nat) : Int)))) rfl ⟨trivial, ⟨by omega, by omega⟩⟩ ?_
        refine gr_st hI31 FI31 rfl rfl ⟨⟨by show (-1) ≤ _; omega, by show _ ≤ 32015; omega⟩, trivial⟩ (fun I342 hI342 FI342 q343 p343 => ?_)
        have t344 := p343 0 71 (fun q => absurd q.1 (by decide))
        have t345 := p343 0 72 (fun q => absurd q.1 (by decide))
        have t346 := p343 0 73 (fun q => absurd q.1 (by decide))
        have t347 := p343 0 69 (fun q => absurd q.1 (by decide))
        have t348 := p343 0 6 (fun q => absurd q.1 (by decide))
        have t349 := p343 0 59 (fun q => absurd q.1 (by decide))
        have t350 := p343 18 (Int.toNat v1_33) (fun q => absurd q.1 (by decide))
        have f351 := (show 0 ≤ I342 0 71 ∧ I342 0 71 ≤ 5 from (hI342 0 71).1)
        have f352 := (show 0 ≤ I342 0 72 ∧ I342 0 72 ≤ 1000 from (hI342 0 72).1)
        have f353 := (show 0 ≤ I342 0 73 ∧ I342 0 73 ≤ 1001 from (hI342 0 73).1)
        have f354 := (show 0 ≤ I342 0 69 ∧ I342 0 69 ≤ 1000 from (hI342 0 69).1)
        have f355 := (show (-1) ≤ I342 0 6 ∧ I342 0 6 ≤ 7 from (hI342 0 6).1)
        have f356 := (show 0 ≤ I342 0 59 ∧ I342 0 59 ≤ 2000 from (hI342 0 59).1)
        refine gv_run 2 true hD (pc' := 119) (lv' := [(5, .inl (v5_33 + 1)), (0, .inr (.inr (some 0))), (1, .inl v1_33), (2, .inl v2_33), (3, .inl v3_33), (4, .inl v4_33)]) (st' := []) (h' := gr_h I342 J32) (C := ((True ∧ True) ∧ True)) rfl ⟨⟨trivial, trivial⟩, trivial⟩ ?_
        refine gv_pick [1, 2, 3, 4, 5, 0] rfl ?_
        exact ih119 I342 J32 v1_33 v2_33 v3_33 v4_33 (v5_33 + 1) (by omega) hI342 FI342 FJ32 ⟨by omega, by omega⟩ ⟨by omega, by omega⟩ ⟨by omega, by omega⟩ ⟨by omega, by omega⟩ ⟨by omega, by omega⟩ (by omega) (by omega) (by omega) (by omega) (by omega) (by omega) (by omega) (by omega) (by omega) (by omega)
  have f357 := (show (-1) ≤ I 0 6 ∧ I 0 6 ≤ 7 from (hI 0 6).1)
  refine gv_run 4 true hD (pc' := 6) (lv' := [(1, .inl (I 0 6)), (0, .inr (.inr (some 0)))]) (st' := [.inr (.inr (some 0))]) (h' := gr_h I J) (C := ((((True ∧ True) ∧ True) ∧ True) ∧ True)) rfl ⟨⟨⟨⟨trivial, trivial⟩, trivial⟩, trivial⟩, trivial⟩ ?_
  obtain ⟨r358, h358, E358, P358⟩ := r_name (ws0 := ws0) (tb := tb) hws htb ext I J hI   
  obtain ⟨I359, J360, rfl, hI359, g358, k358, ⟨z358, rfl, q358⟩⟩ := P358
  have FI359 := gr_frt FI g358 rfl rfl
  have FJ360 := gr_fjt FJ k358 rfl rfl
  have t361 := g358 0 71 rfl
  have t362 := g358 0 72 rfl
  have t363 := g358 0 73 rfl
  have t364 := g358 0 69 rfl
  have t365 := g358 0 6 rfl
  have t366 := g358 0 59 rfl
  have t367 := g358 18 (Int.toNat ((I 0 6))) rfl
  have f368 := (show 0 ≤ I359 0 71 ∧ I359 0 71 ≤ 5 from (hI359 0 71).1)
  have f369 := (show 0 ≤ I359 0 72 ∧ I359 0 72 ≤ 1000 from (hI359 0 72).1)
  have f370 := (show 0 ≤ I359 0 73 ∧ I359 0 73 ≤ 1001 from (hI359 0 73).1)
  have f371 := (show 0 ≤ I359 0 69 ∧ I359 0 69 ≤ 1000 from (hI359 0 69).1)
  have f372 := (show (-1) ≤ I359 0 6 ∧ I359 0 6 ≤ 7 from (hI359 0 6).1)
  have f373 := (show 0 ≤ I359 0 59 ∧ I359 0 59 ≤ 2000 from (hI359 0 59).1)
  refine gv_callV hD rfl (As := []) (st := []) rfl (by decide) rfl rfl (gr_lV hws rfl) (Nat.le_of_ble_eq_true rfl) (gz_Ev_mono (d := 3) (by decide) E358) ?_
  show gv_X _ _ (9, [(1, .inl (I 0 6)), (0, .inr (.inr (some 0)))], [.inl z358], gr_sh ++ ext, gr_h I359 J360)
  refine gv_if_ne (t := 14) hD rfl rfl ⟨by omega, by omega⟩ (fun c374 => ?_) (fun c374 => ?_)
  · have f375 := (show 0 ≤ I359 0 3 ∧ I359 0 3 ≤ 96 from (hI359 0 3).1)
    refine gv_run 7 true hD (pc' := 27) (lv' := [(1, .inl (I 0 6)), (0, .inr (.inr (some 0)))]) (st' := [.inr (.inl (J360 0 75)), .inl (I359 0 3), .inl 0, .inr (.inr (some 3))]) (h' := gr_h I359 J360) (C := (((((((True ∧ True) ∧ True) ∧ True) ∧ True) ∧ True) ∧ True) ∧ True)) rfl ⟨⟨⟨⟨⟨⟨⟨trivial, trivial⟩, trivial⟩, trivial⟩, trivial⟩, trivial⟩, trivial⟩, trivial⟩ ?_
    obtain ⟨r376, h376, E376, P376⟩ := r_find_3 (ws0 := ws0) (tb := tb) hws htb ext I359 J360 hI359 0 (I359 0 3) (J360 0 75) ⟨by omega, by omega⟩ ⟨by omega, by omega⟩ (by omega)
    obtain ⟨rfl, ⟨z376, rfl, q376⟩⟩ := P376
    refine gv_callS hD rfl (As := [.inr (.inr (some 3)), .inl 0, .inl (I359 0 3), .inr (.inl (J360 0 75))]) (st := []) rfl (gr_lS hws rfl) (Nat.le_of_ble_eq_true rfl) (gz_Ev_mono (d := 1) (by decide) E376) ?_
    show gv_X _ _ (30, [(1, .inl (I 0 6)), (0, .inr (.inr (some 0)))], [.inl z376], gr_sh ++ ext, gr_h I359 J360)
    refine gv_run 2 true hD (pc' := 32) (lv' := [(2, .inl z376), (1, .inl (I 0 6)), (0, .inr (.inr (some 0)))]) (st' := [.inl z376]) (h' := gr_h I359 J360) (C := ((True ∧ True) ∧ True)) rfl ⟨⟨trivial, trivial⟩, trivial⟩ ?_
    refine gv_if_lt (t := 44) hD rfl rfl ⟨by omega, by omega⟩ (fun c377 => ?_) (fun c377 => ?_)
    · refine gv_pick [2] rfl ?_
      exact L44 I359 J360 hI359 FI359 FJ360 (by omega) (by omega) (by omega) (by omega) (by omega) (by omega) (by omega) (by omega) (by omega) (by omega)
    · have f378 := (show 0 ≤ I359 6 (Int.toNat z376) ∧ I359 6 (Int.toNat z376) ≤ 4 from (hI359 6 (Int.toNat z376)).1)
      refine gv_run 4 true hD (pc' := 41) (lv' := [(2, .inl z376), (1, .inl (I 0 6)), (0, .inr (.inr (some 0)))]) (st' := [.inl (I359 6 (Int.toNat z376))]) (h' := gr_h I359 J360) (C := ((((True ∧ True) ∧ True) ∧ True) ∧ (0 ≤ z376 ∧ z376 < ((96 : Nat) : Int)))) rfl ⟨⟨⟨⟨trivial, trivial⟩, trivial⟩, trivial⟩, ⟨by omega, by omega⟩⟩ ?_
      refine gv_if_le (t := 50) hD rfl rfl ⟨by omega, by omega⟩ (fun c379 => ?_) (fun c379 => ?_)
      · refine gv_run 1 true hD (pc' := 51) (lv' := [(2, .inl z376), (1, .inl (I 0 6)), (0, .inr (.inr (some 0)))]) (st' := [.inr (.inr (some 0))]) (h' := gr_h I359 J360) (C := (True ∧ True)) rfl ⟨trivial, trivial⟩ ?_
        obtain ⟨r380, h380, E380, P380⟩ := r_next (ws0 := ws0) (tb := tb) hws htb ext I359 J360 hI359   (by omega)
        obtain ⟨I381, J382, rfl, hI381, g380, k380, ⟨rfl, q380⟩⟩ := P380
        have FI381 := gr_frt FI359 g380 rfl rfl
        have FJ382 := gr_fjt FJ360 k380 rfl rfl
        have t383 := g380 0 69 rfl
        have t384 := g380 0 6 rfl
        have t385 := g380 0 59 rfl
        have t386 := g380 18 (Int.toNat ((I 0 6))) rfl
        have f387 := (show 0 ≤ I381 0 71 ∧ I381 0 71 ≤ 5 from (hI381 0 71).1)
        have f388 := (show 0 ≤ I381 0 72 ∧ I381 0 72 ≤ 1000 from (hI381 0 72).1)
        have f389 := (show 0 ≤ I381 0 73 ∧ I381 0 73 ≤ 1001 from (hI381 0 73).1)
        have f390 := (show 0 ≤ I381 0 69 ∧ I381 0 69 ≤ 1000 from (hI381 0 69).1)
        have f391 := (show (-1) ≤ I381 0 6 ∧ I381 0 6 ≤ 7 from (hI381 0 6).1)
        have f392 := (show 0 ≤ I381 0 59 ∧ I381 0 59 ≤ 2000 from (hI381 0 59).1)
        refine gv_callV hD rfl (As := []) (st := []) rfl (by decide) rfl rfl (gr_lV hws rfl) (Nat.le_of_ble_eq_true rfl) (gz_Ev_mono (d := 10) (by decide) E380) ?_
        show gv_X _ _ (54, [(2, .inl z376), (1, .inl (I 0 6)), (0, .inr (.inr (some 0)))], [], gr_sh ++ ext, gr_h I381 J382)
        refine gv_run 1 true hD (pc' := 55) (lv' := [(2, .inl z376), (1, .inl (I 0 6)), (0, .inr (.inr (some 0)))]) (st' := [.inr (.inr (some 0))]) (h' := gr_h I381 J382) (C := (True ∧ True)) rfl ⟨trivial, trivial⟩ ?_
        obtain ⟨r393, h393, E393, P393⟩ := r_name (ws0 := ws0) (tb := tb) hws htb ext I381 J382 hI381   
        obtain ⟨I394, J395, rfl, hI394, g393, k393, ⟨z393, rfl, q393⟩⟩ := P393
        have FI394 := gr_frt FI381 g393 rfl rfl
        have FJ395 := gr_fjt FJ382 k393 rfl rfl
        have t396 := g393 0 71 rfl
        have t397 := g393 0 72 rfl
        have t398 := g393 0 73 rfl
        have t399 := g393 0 69 rfl
        have t400 := g393 0 6 rfl
        have t401 := g393 0 59 rfl
        have t402 := g393 18 (Int.toNat ((I 0 6))) rfl
        have f403 := (show 0 ≤ I394 0 71 ∧ I394 0 71 ≤ 5 from (hI394 0 71).1)
        have f404 := (show 0 ≤ I394 0 72 ∧ I394 0 72 ≤ 1000 from (hI394 0 72).1)
        have f405 := (show 0 ≤ I394 0 73 ∧ I394 0 73 ≤ 1001 from (hI394 0 73).1)
        have f406 := (show 0 ≤ I394 0 69 ∧ I394 0 69 ≤ 1000 from (hI394 0 69).1)
        have f407 := (show (-1) ≤ I394 0 6 ∧ I394 0 6 ≤ 7 from (hI394 0 6).1)
        have f408 := (show 0 ≤ I394 0 59 ∧ I394 0 59 ≤ 2000 from (hI394 0 59).1)
        refine gv_callV hD rfl (As := []) (st := []) rfl (by decide) rfl rfl (gr_lV hws rfl) (Nat.le_of_ble_eq_true rfl) (gz_Ev_mono (d := 3) (by decide) E393) ?_
        show gv_X _ _ (58, [(2, .inl z376), (1, .inl (I 0 6)), (0, .inr (.inr (some 0)))], [.inl z393], gr_sh ++ ext, gr_h I394 J395)
        refine gv_if_ne (t := 63) hD rfl rfl ⟨by omega, by omega⟩ (fun c409 => ?_) (fun c409 => ?_)
        · refine gv_run 7 true hD (pc' := 75) (lv' := [(2, .inl z376), (1, .inl (I 0 6)), (0, .inr (.inr (some 0)))]) (st' := [.inr (.inr (some 17)), .inl (24 * (I 0 6)), .inr (.inr (some 23))]) (h' := gr_h I394 J395) (C := (((((((True ∧ True) ∧ True) ∧ True) ∧ True) ∧ True) ∧ True) ∧ True)) rfl ⟨⟨⟨⟨⟨⟨⟨trivial, trivial⟩, trivial⟩, trivial⟩, trivial⟩, trivial⟩, trivial⟩, trivial⟩ ?_
          have f410 := (show 0 ≤ I394 17 (Int.toNat ((I 0 6))) ∧ I394 17 (Int.toNat ((I 0 6))) ≤ 24 from (hI394 17 (Int.toNat ((I 0 6)))).1)
          refine gv_run 2 true hD (pc' := 77) (lv' := [(2, .inl z376), (1, .inl (I 0 6)), (0, .inr (.inr (some 0)))]) (st' := [.inl (I394 17 (Int.toNat ((I 0 6)))), .inl (24 * (I 0 6)), .inr (.inr (some 23))]) (h' := gr_h I394 J395) (C := ((True ∧ True) ∧ (0 ≤ (I 0 6) ∧ (I 0 6) < ((8 : Nat) : Int)))) rfl ⟨⟨trivial, trivial⟩, ⟨by omega, by omega⟩⟩ ?_
          refine gv_run 2 true hD (pc' := 81) (lv' := [(2, .inl z376), (1, .inl (I 0 6)), (0, .inr (.inr (some 0)))]) (st' := [.inr (.inl (J395 0 75)), .inl (I394 17 (Int.toNat ((I 0 6)))), .inl (24 * (I 0 6)), .inr (.inr (some 23))]) (h' := gr_h I394 J395) (C := ((True ∧ True) ∧ True)) rfl ⟨⟨trivial, trivial⟩, trivial⟩ ?_
          obtain ⟨r411, h411, E411, P411⟩ := r_find_23 (ws0 := ws0) (tb := tb) hws htb ext I394 J395 hI394 ((24 * (I 0 6))) ((I394 17 (Int.toNat ((I 0 6))))) (J395 0 75) ⟨by omega, by omega⟩ ⟨by omega, by omega⟩ (by omega)
          obtain ⟨rfl, ⟨z411, rfl, q411⟩⟩ := P411
          refine gv_callS hD rfl (As := [.inr (.inr (some 23)), .inl (24 * (I 0 6)), .inl (I394 17 (Int.toNat ((I 0 6)))), .inr (.inl (J395 0 75))]) (st := []) rfl (gr_lS hws rfl) (Nat.le_of_ble_eq_true rfl) (gz_Ev_mono (d := 1) (by decide) E411) ?_
          show gv_X _ _ (84, [(2, .inl z376), (1, .inl (I 0 6)), (0, .inr (.inr (some 0)))], [.inl z411], gr_sh ++ ext, gr_h I394 J395)
          refine gv_run 2 true hD (pc' := 86) (lv' := [(3, .inl z411), (2, .inl z376), (1, .inl (I 0 6)), (0, .inr (.inr (some 0)))]) (st' := [.inl z411]) (h' := gr_h I394 J395) (C := ((True ∧ True) ∧ True)) rfl ⟨⟨trivial, trivial⟩, trivial⟩ ?_
          refine gv_if_ge (t := 95) hD rfl rfl ⟨by omega, by omega⟩ (fun c412 => ?_) (fun c412 => ?_)
          · refine gv_run 1 true hD (pc' := 96) (lv' := [(3, .inl z411), (2, .inl z376), (1, .inl (I 0 6)), (0, .inr (.inr (some 0)))]) (st' := [.inr (.inr (some 0))]) (h' := gr_h I394 J395) (C := (True ∧ True)) rfl ⟨trivial, trivial⟩ ?_
            obtain ⟨r413, h413, E413, P413⟩ := r_next (ws0 := ws0) (tb := tb) hws htb ext I394 J395 hI394   (by omega)
            obtain ⟨I414, J415, rfl, hI414, g413, k413, ⟨rfl, q413⟩⟩ := P413
            have FI414 := gr_frt FI394 g413 rfl rfl
            have FJ415 := gr_fjt FJ395 k413 rfl rfl
            have t416 := g413 0 69 rfl
            have t417 := g413 0 6 rfl
            have t418 := g413 0 59 rfl
            have t419 := g413 18 (Int.toNat ((I 0 6))) rfl
            have f420 := (show 0 ≤ I414 0 71 ∧ I414 0 71 ≤ 5 from (hI414 0 71).1)
            have f421 := (show 0 ≤ I414 0 72 ∧ I414 0 72 ≤ 1000 from (hI414 0 72).1)
            have f422 := (show 0 ≤ I414 0 73 ∧ I414 0 73 ≤ 1001 from (hI414 0 73).1)
            have f423 := (show 0 ≤ I414 0 69 ∧ I414 0 69 ≤ 1000 from (hI414 0 69).1)
            have f424 := (show (-1) ≤ I414 0 6 ∧ I414 0 6 ≤ 7 from (hI414 0 6).1)
            have f425 := (show 0 ≤ I414 0 59 ∧ I414 0 59 ≤ 2000 from (hI414 0 59).1)
            refine gv_callV hD rfl (As := []) (st := []) rfl (by decide) rfl rfl (gr_lV hws rfl) (Nat.le_of_ble_eq_true rfl) (gz_Ev_mono (d := 10) (by decide) E413) ?_
            show gv_X _ _ (99, [(3, .inl z411), (2, .inl z376), (1, .inl (I 0 6)), (0, .inr (.inr (some 0)))], [], gr_sh ++ ext, gr_h I414 J415)
            have f426 := (show 0 ≤ I414 0 71 ∧ I414 0 71 ≤ 5 from (hI414 0 71).1)
            refine gv_run 3 true hD (pc' := 104) (lv' := [(3, .inl z411), (2, .inl z376), (1, .inl (I 0 6)), (0, .inr (.inr (some 0)))]) (st' := [.inl 3, .inl (I414 0 71)]) (h' := gr_h I414 J415) (C := (((True ∧ True) ∧ True) ∧ True)) rfl ⟨⟨⟨trivial, trivial⟩, trivial⟩, trivial⟩ ?_
            refine gv_icmp_eq (t := 113) hD rfl rfl ⟨⟨by omega, by omega⟩, ⟨by omega, by omega⟩⟩ (fun c427 => ?_) (fun c427 => ?_)
            · refine gv_run 4 true hD (pc' := 119) (lv' := [(5, .inl 0), (4, .inl 0), (3, .inl z411), (2, .inl z376), (1, .inl (I 0 6)), (0, .inr (.inr (some 0)))]) (st' := []) (h' := gr_h I414 J415) (C := ((((True ∧ True) ∧ True) ∧ True) ∧ True)) rfl ⟨⟨⟨⟨trivial, trivial⟩, trivial⟩, trivial⟩, trivial⟩ ?_
              refine gv_pick [5, 4, 3, 2, 1, 0] rfl ?_
              exact L119 _ I414 J415 (I 0 6) z376 z411 0 0 (Nat.lt_succ_self _) hI414 FI414 FJ415 ⟨by omega, by omega⟩ ⟨by omega, by omega⟩ ⟨by omega, by omega⟩ ⟨by omega, by omega⟩ ⟨by omega, by omega⟩ (by omega) (by omega) (by omega) (by omega) (by omega) (by omega) (by omega) (by omega) (by omega) (by omega)
            · refine gv_run 2 true hD (pc' := 109) (lv' := [(3, .inl z411), (2, .inl z376), (1, .inl (I 0 6)), (0, .inr (.inr (some 0)))]) (st' := [.inl 1, .inr (.inr (some 0))]) (h' := gr_h I414 J415) (C := ((True ∧ True) ∧ True)) rfl ⟨⟨trivial, trivial⟩, trivial⟩ ?_
              obtain ⟨r428, h428, E428, P428⟩ := r_no_ (ws0 := ws0) (tb := tb) hws htb ext I414 J415 hI414 1 ⟨by omega, by omega⟩ 
              obtain ⟨I429, J430, rfl, hI429, g428, k428, ⟨z428, rfl, q428⟩⟩ := P428
              have FI429 := gr_frt FI414 g428 rfl rfl
              have FJ430 := gr_fjt FJ415 k428 rfl rfl
              have t431 := g428 0 71 rfl
              have t432 := g428 0 72 rfl
              have t433 := g428 0 73 rfl
              have t434 := g428 0 69 rfl
              have t435 := g428 0 6 rfl
              have t436 := g428 0 59 rfl
              have t437 := g428 18 (Int.toNat ((I 0 6))) rfl
              have f438 := (show 0 ≤ I429 0 71 ∧ I429 0 71 ≤ 5 from (hI429 0 71).1)
              have f439 := (show 0 ≤ I429 0 72 ∧ I429 0 72 ≤ 1000 from (hI429 0 72).1)
              have f440 := (show 0 ≤ I429 0 73 ∧ I429 0 73 ≤ 1001 from (hI429 0 73).1)
              have f441 := (show 0 ≤ I429 0 69 ∧ I429 0 69 ≤ 1000 from (hI429 0 69).1)
              have f442 := (show (-1) ≤ I429 0 6 ∧ I429 0 6 ≤ 7 from (hI429 0 6).1)
              have f443 := (show 0 ≤ I429 0 59 ∧ I429 0 59 ≤ 2000 from (hI429 0 59).1)
              refine gv_callV hD rfl (As := [.inl 1]) (st := []) rfl (by decide) rfl rfl (gr_lV hws rfl) (Nat.le_of_ble_eq_true rfl) (gz_Ev_mono (d := 2) (by decide) E428) ?_
              show gv_X _ _ (112, [(3, .inl z411), (2, .inl z376), (1, .inl (I 0 6)), (0, .inr (.inr (some 0)))], [.inl z428], gr_sh ++ ext, gr_h I429 J430)
              exact gv_zret hD rfl (by omega) ⟨I429, J430, rfl, hI429, FI429, FJ430, ⟨_, rfl, by omega, by omega, by omega, by omega, by omega, by omega, by omega, by omega, by omega, by omega, by omega⟩⟩
          · refine gv_run 2 true hD (pc' := 91) (lv' := [(3, .inl z411), (2, .inl z376), (1, .inl (I 0 6)), (0, .inr (.inr (some 0)))]) (st' := [.inl 5, .inr (.inr (some 0))]) (h' := gr_h I394 J395) (C := ((True ∧ True) ∧ True)) rfl ⟨⟨trivial, trivial⟩, trivial⟩ ?_
            obtain ⟨r444, h444, E444, P444⟩ := r_no_ (ws0 := ws0) (tb := tb) hws htb ext I394 J395 hI394 5 ⟨by omega, by omega⟩ 
            obtain ⟨I445, J446, rfl, hI445, g444, k444, ⟨z444, rfl, q444⟩⟩ := P444
            have FI445 := gr_frt FI394 g444 rfl rfl
            have FJ446 := gr_fjt FJ395 k444 rfl rfl
            have t447 := g444 0 71 rfl
            have t448 := g444 0 72 rfl
            have t449 := g444 0 73 rfl
            have t450 := g444 0 69 rfl
            have t451 := g444 0 6 rfl
            have t452 := g444 0 59 rfl
            have t453 := g444 18 (Int.toNat ((I 0 6))) rfl
            have f454 := (show 0 ≤ I445 0 71 ∧ I445 0 71 ≤ 5 from (hI445 0 71).1)
            have f455 := (show 0 ≤ I445 0 72 ∧ I445 0 72 ≤ 1000 from (hI445 0 72).1)
            have f456 := (show 0 ≤ I445 0 73 ∧ I445 0 73 ≤ 1001 from (hI445 0 73).1)
            have f457 := (show 0 ≤ I445 0 69 ∧ I445 0 69 ≤ 1000 from (hI445 0 69).1)
            have f458 := (show (-1) ≤ I445 0 6 ∧ I445 0 6 ≤ 7 from (hI445 0 6).1)
            have f459 := (show 0 ≤ I445 0 59 ∧ I445 0 59 ≤ 2000 from (hI445 0 59).1)
            refine gv_callV hD rfl (As := [.inl 5]) (st := []) rfl (by decide) rfl rfl (gr_lV hws rfl) (Nat.le_of_ble_eq_true rfl) (gz_Ev_mono (d := 2) (by decide) E444) ?_
            show gv_X _ _ (94, [(3, .inl z411), (2, .inl z376), (1, .inl (I 0 6)), (0, .inr (.inr (some 0)))], [.inl z444], gr_sh ++ ext, gr_h I445 J446)
            exact gv_zret hD rfl (by omega) ⟨I445, J446, rfl, hI445, FI445, FJ446, ⟨_, rfl, by omega, by omega, by omega, by omega, by omega, by omega, by omega, by omega, by omega, by omega, by omega⟩⟩
        · refine gv_run 1 true hD (pc' := 62) (lv' := [(2, .inl z376), (1, .inl (I 0 6)), (0, .inr (.inr (some 0)))]) (st' := [.inl 0]) (h' := gr_h I394 J395) (C := (True ∧ True)) rfl ⟨trivial, trivial⟩ ?_
          exact gv_zret hD rfl (by omega) ⟨I394, J395, rfl, hI394, FI394, FJ395, ⟨_, rfl, by omega, by omega, by omega, by omega, by omega, by omega, by omega, by omega, by omega, by omega, by omega⟩⟩
      · refine gv_pick [2] rfl ?_
        exact L44 I359 J360 hI359 FI359 FJ360 (by omega) (by omega) (by omega) (by omega) (by omega) (by omega) (by omega) (by omega) (by omega) (by omega)
  · refine gv_run 1 true hD (pc' := 13) (lv' := [(1, .inl (I 0 6)), (0, .inr (.inr (some 0)))]) (st' := [.inl 0]) (h' := gr_h I359 J360) (C := (True ∧ True)) rfl ⟨trivial, trivial⟩ ?_
    exact gv_zret hD rfl (by omega) ⟨I359, J360, rfl, hI359, FI359, FJ360, ⟨_, rfl, by omega, by omega, by omega, by omega, by omega, by omega, by omega, by omega, by omega, by omega, by omega⟩⟩
set_option maxHeartbeats 4000000 in
set_option maxRecDepth 100000 in
theorem r_pattern {ws0 : List Cond} {tb : String → gz_T} (hws : ∀ w ∈ gr_ws, w ∈ ws0) (htb : tb RX13 = gr_T) (ext : gz_Sh) (I : gr_I) (J : gr_J) (hI : gr_Inv I)   (x0 : I 0 71 = 5 ∨ I 0 73 ≤ I 0 69) (x1 : I 0 72 ≤ I 0 69) (x2 : I 0 71 = 0 ∨ (I 0 72 < I 0 73 ∧ I 0 72 < I 0 69)) (x3 : I 0 71 = 3 → 2 ≤ I 0 73 - I 0 72 ∧ I 0 73 - I 0 72 ≤ 14) (x4 : I 0 72 ≤ I 0 73) (x5 : 0 ≤ I 0 6) (x6 : I 0 59 + I 0 69 - I 0 72 ≤ 1900) (x7 : I 0 42 + I 0 69 - I 0 72 ≤ 1900) : ∃ r h', gz_Ev ws0 tb 12 (yX13_pattern, cX13_pattern, 8, (some .boolean)) [.inr (.inr (some 0))] (gr_sh ++ ext) (gr_h I J) r (gr_sh ++ ext) h' 0 0 ∧ (∃ (I' : gr_I) (J' : gr_J), h' = gr_h I' J' ∧ gr_Inv I' ∧ gr_fr [42, 59, 71, 72, 73, 74, 75, 76, 77, 106] [17, 23, 31, 32, 33, 34, 35, 51, 57, 64, 65, 66] I I' ∧ gr_fj [42, 59, 71, 72, 73, 74, 75, 76, 77, 106] [17, 23, 31, 32, 33, 34, 35, 51, 57, 64, 65, 66] J J' ∧ (∃ z : Int, r = some (.inl z) ∧ 0 ≤ z ∧ z ≤ 1 ∧ (I' 0 71 = 5 ∨ I' 0 73 ≤ I' 0 69) ∧ (I' 0 72 ≤ I' 0 69) ∧ (I' 0 71 = 0 ∨ (I' 0 72 < I' 0 73 ∧ I' 0 72 < I' 0 69)) ∧ (I' 0 71 = 3 → 2 ≤ I' 0 73 - I' 0 72 ∧ I' 0 73 - I' 0 72 ≤ 14) ∧ (I' 0 72 ≤ I' 0 73) ∧ (I' 0 69 = I 0 69) ∧ (I 0 73 ≤ I' 0 73) ∧ (I 0 72 ≤ I' 0 72) ∧ (I' 0 59 - I' 0 72 ≤ I 0 59 - I 0 72) ∧ (I' 0 42 - I' 0 72 ≤ I 0 42 - I 0 72))) := by
  have FI : gr_fr [42, 59, 71, 72, 73, 74, 75, 76, 77, 106] [17, 23, 31, 32, 33, 34, 35, 51, 57, 64, 65, 66] I I := fun _ _ _ => rfl
  have FJ : gr_fj [42, 59, 71, 72, 73, 74, 75, 76, 77, 106] [17, 23, 31, 32, 33, 34, 35, 51, 57, 64, 65, 66] J J := fun _ _ _ => rfl
  have hD : gv_D (gr_E ws0 tb 11 (yX13_pattern, cX13_pattern, 8, (some .boolean)) kX13_pattern) := gq_ok oX13_pattern
  refine gr_ev (d := 11) (l := kX13_pattern) (Po := fun r h' => (∃ (I' : gr_I) (J' : gr_J), h' = gr_h I' J' ∧ gr_Inv I' ∧ gr_fr [42, 59, 71, 72, 73, 74, 75, 76, 77, 106] [17, 23, 31, 32, 33, 34, 35, 51, 57, 64, 65, 66] I I' ∧ gr_fj [42, 59, 71, 72, 73, 74, 75, 76, 77, 106] [17, 23, 31, 32, 33, 34, 35, 51, 57, 64, 65, 66] J J' ∧ (∃ z : Int, r = some (.inl z) ∧ 0 ≤ z ∧ z ≤ 1 ∧ (I' 0 71 = 5 ∨ I' 0 73 ≤ I' 0 69) ∧ (I' 0 72 ≤ I' 0 69) ∧ (I' 0 71 = 0 ∨ (I' 0 72 < I' 0 73 ∧ I' 0 72 < I' 0 69)) ∧ (I' 0 71 = 3 → 2 ≤ I' 0 73 - I' 0 72 ∧ I' 0 73 - I' 0 72 ≤ 14) ∧ (I' 0 72 ≤ I' 0 73) ∧ (I' 0 69 = I 0 69) ∧ (I 0 73 ≤ I' 0 73) ∧ (I 0 72 ≤ I' 0 72) ∧ (I' 0 59 - I' 0 72 ≤ I 0 59 - I 0 72) ∧ (I' 0 42 - I' 0 72 ≤ I 0 42 - I 0 72)))) htb rfl (Nat.le_of_ble_eq_true rfl) ?_
  have f1 := (show 0 ≤ I 0 71 ∧ I 0 71 ≤ 5 from (hI 0 71).1)
  have f2 := (show 0 ≤ I 0 72 ∧ I 0 72 ≤ 1000 from (hI 0 72).1)
  have f3 := (show 0 ≤ I 0 73 ∧ I 0 73 ≤ 1001 from (hI 0 73).1)
  have f4 := (show 0 ≤ I 0 69 ∧ I 0 69 ≤ 1000 from (hI 0 69).1)
  have f5 := (show (-1) ≤ I 0 6 ∧ I 0 6 ≤ 7 from (hI 0 6).1)
  have f6 := (show 0 ≤ I 0 59 ∧ I 0 59 ≤ 2000 from (hI 0 59).1)
  have f7 := (show 0 ≤ I 0 42 ∧ I 0 42 ≤ 2000 from (hI 0 42).1)
  have L207 : ∀ (I8 : gr_I) (J9 : gr_J) (v1_10 : Int) (v2_10 : Int64) (v4_10 : Int), gr_Inv I8 → gr_fr [42, 59, 71, 72, 73, 74, 75, 76, 77, 106] [17, 23, 31, 32, 33, 34, 35, 51, 57, 64, 65, 66] I I8 → gr_fj [42, 59, 71, 72, 73, 74, 75, 76, 77, 106] [17, 23, 31, 32, 33, 34, 35, 51, 57, 64, 65, 66] J J9 → 0 ≤ v1_10 ∧ v1_10 ≤ 7 → 0 ≤ v4_10 ∧ v4_10 ≤ 24 → (v4_10 ≤ 24) → (I8 0 71 = 5 ∨ I8 0 73 ≤ I8 0 69) → (I8 0 72 ≤ I8 0 69) → (I8 0 71 = 0 ∨ (I8 0 72 < I8 0 73 ∧ I8 0 72 < I8 0 69)) → (I8 0 71 = 3 → 2 ≤ I8 0 73 - I8 0 72 ∧ I8 0 73 - I8 0 72 ≤ 14) → (I8 0 72 ≤ I8 0 73) → (I8 0 69 = I 0 69) → (I 0 73 ≤ I8 0 73) → (I 0 72 ≤ I8 0 72) → (I8 0 6 = I 0 6) → (I8 0 59 - I8 0 72 ≤ I 0 59 - I 0 72) → (I8 0 42 - I8 0 72 ≤ I 0 42 - I 0 72) → gv_X (gr_E ws0 tb 11 (yX13_pattern, cX13_pattern, 8, (some .boolean)) kX13_pattern) (gv_Q cX13_pattern (some .boolean) (gr_sh ++ ext) (fun r h' => (∃ (I' : gr_I) (J' : gr_J), h' = gr_h I' J' ∧ gr_Inv I' ∧ gr_fr [42, 59, 71, 72, 73, 74, 75, 76, 77, 106] [17, 23, 31, 32, 33, 34, 35, 51, 57, 64, 65, 66] I I' ∧ gr_fj [42, 59, 71, 72, 73, 74, 75, 76, 77, 106] [17, 23, 31, 32, 33, 34, 35, 51, 57, 64, 65, 66] J J' ∧ (∃ z : Int, r = some (.inl z) ∧ 0 ≤ z ∧ z ≤ 1 ∧ (I' 0 71 = 5 ∨ I' 0 73 ≤ I' 0 69) ∧ (I' 0 72 ≤ I' 0 69) ∧ (I' 0 71 = 0 ∨ (I' 0 72 < I' 0 73 ∧ I' 0 72 < I' 0 69)) ∧ (I' 0 71 = 3 → 2 ≤ I' 0 73 - I' 0 72 ∧ I' 0 73 - I' 0 72 ≤ 14) ∧ (I' 0 72 ≤ I' 0 73) ∧ (I' 0 69 = I 0 69) ∧ (I 0 73 ≤ I' 0 73) ∧ (I 0 72 ≤ I' 0 72) ∧ (I' 0 59 - I' 0 72 ≤ I 0 59 - I 0 72) ∧ (I' 0 42 - I' 0 72 ≤ I 0 42 - I 0 72))))) (207, [(0, .inr (.inr (some 0))), (1, .inl v1_10), (2, .inr (.inl v2_10)), (4, .inl v4_10)], [], gr_sh ++ ext, gr_h I8 J9) := by
    intro I8 J9 v1_10 v2_10 v4_10 hI8 FI8 FJ9 hv1_10 hv4_10 e0_10 e1_10 e2_10 e3_10 e4_10 e5_10 e6_10 e7_10 e8_10 e9_10 e10_10 e11_10
    have f11 := (show 0 ≤ I8 0 71 ∧ I8 0 71 ≤ 5 from (hI8 0 71).1)
    have f12 := (show 0 ≤ I8 0 72 ∧ I8 0 72 ≤ 1000 from (hI8 0 72).1)
    have f13 := (show 0 ≤ I8 0 73 ∧ I8 0 73 ≤ 1001 from (hI8 0 73).1)
    have f14 := (show 0 ≤ I8 0 69 ∧ I8 0 69 ≤ 1000 from (hI8 0 69).1)
    have f15 := (show (-1) ≤ I8 0 6 ∧ I8 0 6 ≤ 7 from (hI8 0 6).1)
    have f16 := (show 0 ≤ I8 0 59 ∧ I8 0 59 ≤ 2000 from (hI8 0 59).1)
    have f17 := (show 0 ≤ I8 0 42 ∧ I8 0 42 ≤ 2000 from (hI8 0 42).1)
    have L218 : ∀ (n : Nat) (I18 : gr_I) (J19 : gr_J) (v4_20 : Int), (1001 - I18 0 72).toNat < n → gr_Inv I18 → gr_fr [42, 59, 71, 72, 73, 74, 75, 76, 77, 106] [17, 23, 31, 32, 33, 34, 35, 51, 57, 64, 65, 66] I I18 → gr_fj [42, 59, 71, 72, 73, 74, 75, 76, 77, 106] [17, 23, 31, 32, 33, 34, 35, 51, 57, 64, 65, 66] J J19 → 0 ≤ v1_10 ∧ v1_10 ≤ 7 → 0 ≤ v4_20 ∧ v4_20 ≤ 358 → (3 * v4_20 ≤ 72 + I18 0 72) → (I18 0 71 = 5 ∨ I18 0 73 ≤ I18 0 69) → (I18 0 72 ≤ I18 0 69) → (I18 0 71 = 0 ∨ (I18 0 72 < I18 0 73 ∧ I18 0 72 < I18 0 69)) → (I18 0 71 = 3 → 2 ≤ I18 0 73 - I18 0 72 ∧ I18 0 73 - I18 0 72 ≤ 14) → (I18 0 72 ≤ I18 0 73) → (I18 0 69 = I 0 69) → (I 0 73 ≤ I18 0 73) → (I 0 72 ≤ I18 0 72) → (I18 0 6 = I 0 6) → (I18 0 59 - I18 0 72 ≤ I 0 59 - I 0 72) → (I18 0 42 - I18 0 72 ≤ I 0 42 - I 0 72) → gv_X (gr_E ws0 tb 11 (yX13_pattern, cX13_pattern, 8, (some .boolean)) kX13_pattern) (gv_Q cX13_pattern (some .boolean) (gr_sh ++ ext) (fun r h' => (∃ (I' : gr_I) (J' : gr_J), h' = gr_h I' J' ∧ gr_Inv I' ∧ gr_fr [42, 59, 71, 72, 73, 74, 75, 76, 77, 106] [17, 23, 31, 32, 33, 34, 35, 51, 57, 64, 65, 66] I I' ∧ gr_fj [42, 59, 71, 72, 73, 74, 75, 76, 77, 106] [17, 23, 31, 32, 33, 34, 35, 51, 57, 64, 65, 66] J J' ∧ (∃ z : Int, r = some (.inl z) ∧ 0 ≤ z ∧ z ≤ 1 ∧ (I' 0 71 = 5 ∨ I' 0 73 ≤ I' 0 69) ∧ (I' 0 72 ≤ I' 0 69) ∧ (I' 0 71 = 0 ∨ (I' 0 72 < I' 0 73 ∧ I' 0 72 < I' 0 69)) ∧ (I' 0 71 = 3 → 2 ≤ I' 0 73 - I' 0 72 ∧ I' 0 73 - I' 0 72 ≤ 14) ∧ (I' 0 72 ≤ I' 0 73) ∧ (I' 0 69 = I 0 69) ∧ (I 0 73 ≤ I' 0 73) ∧ (I 0 72 ≤ I' 0 72) ∧ (I' 0 59 - I' 0 72 ≤ I 0 59 - I 0 72) ∧ (I' 0 42 - I' 0 72 ≤ I 0 42 - I 0 72))))) (218, [(0, .inr (.inr (some 0))), (1, .inl v1_10), (2, .inr (.inl v2_10)), (4, .inl v4_20)], [], gr_sh ++ ext, gr_h I18 J19) := by
      intro n
      induction n with
      | zero => intro I18 J19 v4_20 hn; omega
      | succ n ih218 =>
        intro I18 J19 v4_20 hn hI18 FI18 FJ19 hv1_10_20 hv4_20 e0_20 e1_20 e2_20 e3_20 e4_20 e5_20 e6_20 e7_20 e8_20 e9_20 e10_20 e11_20
        have f21 := (show 0 ≤ I18 0 71 ∧ I18 0 71 ≤ 5 from (hI18 0 71).1)
        have f22 := (show 0 ≤ I18 0 72 ∧ I18 0 72 ≤ 1000 from (hI18 0 72).1)
        have f23 := (show 0 ≤ I18 0 73 ∧ I18 0 73 ≤ 1001 from (hI18 0 73).1)
        have f24 := (show 0 ≤ I18 0 69 ∧ I18 0 69 ≤ 1000 from (hI18 0 69).1)
        have f25 := (show (-1) ≤ I18 0 6 ∧ I18 0 6 ≤ 7 from (hI18 0 6).1)
        have f26 := (show 0 ≤ I18 0 59 ∧ I18 0 59 ≤ 2000 from (hI18 0 59).1)
        have f27 := (show 0 ≤ I18 0 42 ∧ I18 0 42 ≤ 2000 from (hI18 0 42).1)
        have L223 : ∀ (n : Nat) (I28 : gr_I) (J29 : gr_J) , (1001 - I28 0 72).toNat < n → gr_Inv I28 → gr_fr [42, 59, 71, 72, 73, 74, 75, 76, 77, 106] [17, 23, 31, 32, 33, 34, 35, 51, 57, 64, 65, 66] I I28 → gr_fj [42, 59, 71, 72, 73, 74, 75, 76, 77, 106] [17, 23, 31, 32, 33, 34, 35, 51, 57, 64, 65, 66] J J29 → 0 ≤ v1_10 ∧ v1_10 ≤ 7 → 0 ≤ v4_20 ∧ v4_20 ≤ 358 → (3 * v4_20 ≤ 72 + I28 0 72) → (I28 0 71 = 5 ∨ I28 0 73 ≤ I28 0 69) → (I28 0 72 ≤ I28 0 69) → (I28 0 71 = 0 ∨ (I28 0 72 < I28 0 73 ∧ I28 0 72 < I28 0 69)) → (I28 0 71 = 3 → 2 ≤ I28 0 73 - I28 0 72 ∧ I28 0 73 - I28 0 72 ≤ 14) → (I28 0 72 ≤ I28 0 73) → (I28 0 69 = I 0 69) → (I 0 73 ≤ I28 0 73) → (I 0 72 ≤ I28 0 72) → (I28 0 6 = I 0 6) → (I28 0 59 - I28 0 72 ≤ I 0 59 - I 0 72) → (I28 0 42 - I28 0 72 ≤ I 0 42 - I 0 72) → gv_X (gr_E ws0 tb 11 (yX13_pattern, cX13_pattern, 8, (some .boolean)) kX13_pattern) (gv_Q cX13_pattern (some .boolean) (gr_sh ++ ext) (fun r h' => (∃ (I' : gr_I) (J' : gr_J), h' = gr_h I' J' ∧ gr_Inv I' ∧ gr_fr [42, 59, 71, 72, 73, 74, 75, 76, 77, 106] [17, 23, 31, 32, 33, 34, 35, 51, 57, 64, 65, 66] I I' ∧ gr_fj [42, 59, 71, 72, 73, 74, 75, 76, 77, 106] [17, 23, 31, 32, 33, 34, 35, 51, 57, 64, 65, 66] J J' ∧ (∃ z : Int, r = some (.inl z) ∧ 0 ≤ z ∧ z ≤ 1 ∧ (I' 0 71 = 5 ∨ I' 0 73 ≤ I' 0 69) ∧ (I' 0 72 ≤ I' 0 69) ∧ (I' 0 71 = 0 ∨ (I' 0 72 < I' 0 73 ∧ I' 0 72 < I' 0 69)) ∧ (I' 0 71 = 3 → 2 ≤ I' 0 73 - I' 0 72 ∧ I' 0 73 - I' 0 72 ≤ 14) ∧ (I' 0 72 ≤ I' 0 73) ∧ (I' 0 69 = I 0 69) ∧ (I 0 73 ≤ I' 0 73) ∧ (I 0 72 ≤ I' 0 72) ∧ (I' 0 59 - I' 0 72 ≤ I 0 59 - I 0 72) ∧ (I' 0 42 - I' 0 72 ≤ I 0 42 - I 0 72))))) (223, [(0, .inr (.inr (some 0))), (1, .inl v1_10), (2, .inr (.inl v2_10)), (4, .inl v4_20)], [], gr_sh ++ ext, gr_h I28 J29) := by
          intro n
          induction n with
          | zero => intro I28 J29 hn; omega
          | succ n ih223 =>
            intro I28 J29 hn hI28 FI28 FJ29 hv1_10_30 hv4_20_30 e0_30 e1_30 e2_30 e3_30 e4_30 e5_30 e6_30 e7_30 e8_30 e9_30 e10_30 e11_30
            have f31 := (show 0 ≤ I28 0 71 ∧ I28 0 71 ≤ 5 from (hI28 0 71).1)
            have f32 := (show 0 ≤ I28 0 72 ∧ I28 0 72 ≤ 1000 from (hI28 0 72).1)
            have f33 := (show 0 ≤ I28 0 73 ∧ I28 0 73 ≤ 1001 from (hI28 0 73).1)
            have f34 := (show 0 ≤ I28 0 69 ∧ I28 0 69 ≤ 1000 from (hI28 0 69).1)
            have f35 := (show (-1) ≤ I28 0 6 ∧ I28 0 6 ≤ 7 from (hI28 0 6).1)
            have f36 := (show 0 ≤ I28 0 59 ∧ I28 0 59 ≤ 2000 from (hI28 0 59).1)
            have f37 := (show 0 ≤ I28 0 42 ∧ I28 0 42 ≤ 2000 from (hI28 0 42).1)
            have L254 : ∀ (n : Nat) (I38 : gr_I) (J39 : gr_J) (v5_40 : Int), (358 - v5_40).toNat < n → gr_Inv I38 → gr_fr [42, 59, 71, 72, 73, 74, 75, 76, 77, 106] [17, 23, 31, 32, 33, 34, 35, 51, 57, 64, 65, 66] I I38 → gr_fj [42, 59, 71, 72, 73, 74, 75, 76, 77, 106] [17, 23, 31, 32, 33, 34, 35, 51, 57, 64, 65, 66] J J39 → 0 ≤ v1_10 ∧ v1_10 ≤ 7 → 0 ≤ v4_20 ∧ v4_20 ≤ 357 → 0 ≤ v5_40 ∧ v5_40 ≤ 357 → (3 * v4_20 ≤ 71 + I38 0 72) → (v5_40 ≤ v4_20) → (I38 0 71 = 5 ∨ I38 0 73 ≤ I38 0 69) → (I38 0 72 ≤ I38 0 69) → (I38 0 71 = 0 ∨ (I38 0 72 < I38 0 73 ∧ I38 0 72 < I38 0 69)) → (I38 0 71 = 3 → 2 ≤ I38 0 73 - I38 0 72 ∧ I38 0 73 - I38 0 72 ≤ 14) → (I38 0 72 ≤ I38 0 73) → (I38 0 69 = I 0 69) → (I 0 73 ≤ I38 0 73) → (I 0 72 ≤ I38 0 72) → (I38 0 6 = I 0 6) → (I38 0 59 - I38 0 72 ≤ I 0 59 - I 0 72) → (I38 0 42 - I38 0 72 ≤ I 0 42 - I 0 72) → gv_X (gr_E ws0 tb 11 (yX13_pattern, cX13_pattern, 8, (some .boolean)) kX13_pattern) (gv_Q cX13_pattern (some .boolean) (gr_sh ++ ext) (fun r h' => (∃ (I' : gr_I) (J' : gr_J), h' = gr_h I' J' ∧ gr_Inv I' ∧ gr_fr [42, 59, 71, 72, 73, 74, 75, 76, 77, 106] [17, 23, 31, 32, 33, 34, 35, 51, 57, 64, 65, 66] I I' ∧ gr_fj [42, 59, 71, 72, 73, 74, 75, 76, 77, 106] [17, 23, 31, 32, 33, 34, 35, 51, 57, 64, 65, 66] J J' ∧ (∃ z : Int, r = some (.inl z) ∧ 0 ≤ z ∧ z ≤ 1 ∧ (I' 0 71 = 5 ∨ I' 0 73 ≤ I' 0 69) ∧ (I' 0 72 ≤ I' 0 69) ∧ (I' 0 71 = 0 ∨ (I' 0 72 < I' 0 73 ∧ I' 0 72 < I' 0 69)) ∧ (I' 0 71 = 3 → 2 ≤ I' 0 73 - I' 0 72 ∧ I' 0 73 - I' 0 72 ≤ 14) ∧ (I' 0 72 ≤ I' 0 73) ∧ (I' 0 69 = I 0 69) ∧ (I 0 73 ≤ I' 0 73) ∧ (I 0 72 ≤ I' 0 72) ∧ (I' 0 59 - I' 0 72 ≤ I 0 59 - I 0 72) ∧ (I' 0 42 - I' 0 72 ≤ I 0 42 - I 0 72))))) (254, [(0, .inr (.inr (some 0))), (1, .inl v1_10), (2, .inr (.inl v2_10)), (4, .inl v4_20), (5, .inl v5_40)], [], gr_sh ++ ext, gr_h I38 J39) := by
              intro n
              induction n with
              | zero => intro I38 J39 v5_40 hn; omega
              | succ n ih254 =>
                intro I38 J39 v5_40 hn hI38 FI38 FJ39 hv1_10_40 hv4_20_40 hv5_40 e0_40 e1_40 e2_40 e3_40 e4_40 e5_40 e6_40 e7_40 e8_40 e9_40 e10_40 e11_40 e12_40
                have f41 := (show 0 ≤ I38 0 71 ∧ I38 0 71 ≤ 5 from (hI38 0 71).1)
                have f42 := (show 0 ≤ I38 0 72 ∧ I38 0 72 ≤ 1000 from (hI38 0 72).1)
                have f43 := (show 0 ≤ I38 0 73 ∧ I38 0 73 ≤ 1001 from (hI38 0 73).1)
                have f44 := (show 0 ≤ I38 0 69 ∧ I38 0 69 ≤ 1000 from (hI38 0 69).1)
                have f45 := (show (-1) ≤ I38 0 6 ∧ I38 0 6 ≤ 7 from (hI38 0 6).1)
                have f46 := (show 0 ≤ I38 0 59 ∧ I38 0 59 ≤ 2000 from (hI38 0 59).1)
                have f47 := (show 0 ≤ I38 0 42 ∧ I38 0 42 ≤ 2000 from (hI38 0 42).1)
                have L281 : 0 ≤ v1_10 ∧ v1_10 ≤ 7 → 0 ≤ v4_20 ∧ v4_20 ≤ 357 → 0 ≤ v5_40 ∧ v5_40 ≤ 357 → (3 * v4_20 ≤ 71 + I38 0 72) → (v5_40 ≤ v4_20) → (I38 0 71 = 5 ∨ I38 0 73 ≤ I38 0 69) → (I38 0 72 ≤ I38 0 69) → (I38 0 71 = 0 ∨ (I38 0 72 < I38 0 73 ∧ I38 0 72 < I38 0 69)) → (I38 0 71 = 3 → 2 ≤ I38 0 73 - I38 0 72 ∧ I38 0 73 - I38 0 72 ≤ 14) → (I38 0 72 ≤ I38 0 73) → (I38 0 69 = I 0 69) → (I 0 73 ≤ I38 0 73) → (I 0 72 ≤ I38 0 72) → (I38 0 6 = I 0 6) → (I38 0 59 - I38 0 72 ≤ I 0 59 - I 0 72) → (I38 0 42 - I38 0 72 ≤ I 0 42 - I 0 72) → gv_X (gr_E ws0 tb 11 (yX13_pattern, cX13_pattern, 8, (some .boolean)) kX13_pattern) (gv_Q cX13_pattern (some .boolean) (gr_sh ++ ext) (fun r h' => (∃ (I' : gr_I) (J' : gr_J), h' = gr_h I' J' ∧ gr_Inv I' ∧ gr_fr [42, 59, 71, 72, 73, 74, 75, 76, 77, 106] [17, 23, 31, 32, 33, 34, 35, 51, 57, 64, 65, 66] I I' ∧ gr_fj [42, 59, 71, 72, 73, 74, 75, 76, 77, 106] [17, 23, 31, 32, 33, 34, 35, 51, 57, 64, 65, 66] J J' ∧ (∃ z : Int, r = some (.inl z) ∧ 0 ≤ z ∧ z ≤ 1 ∧ (I' 0 71 = 5 ∨ I' 0 73 ≤ I' 0 69) ∧ (I' 0 72 ≤ I' 0 69) ∧ (I' 0 71 = 0 ∨ (I' 0 72 < I' 0 73 ∧ I' 0 72 < I' 0 69)) ∧ (I' 0 71 = 3 → 2 ≤ I' 0 73 - I' 0 72 ∧ I' 0 73 - I' 0 72 ≤ 14) ∧ (I' 0 72 ≤ I' 0 73) ∧ (I' 0 69 = I 0 69) ∧ (I 0 73 ≤ I' 0 73) ∧ (I 0 72 ≤ I' 0 72) ∧ (I' 0 59 - I' 0 72 ≤ I 0 59 - I 0 72) ∧ (I' 0 42 - I' 0 72 ≤ I 0 42 - I 0 72))))) (281, [(0, .inr (.inr (some 0))), (1, .inl v1_10), (2, .inr (.inl v2_10)), (4, .inl v4_20), (5, .inl v5_40)], [], gr_sh ++ ext, gr_h I38 J39) := by
                  intro hv1_10_48 hv4_20_48 hv5_40_48 e0_48 e1_48 e2_48 e3_48 e4_48 e5_48 e6_48 e7_48 e8_48 e9_48 e10_48 e11_48 e12_48
                  have f49 := (show 0 ≤ I38 0 71 ∧ I38 0 71 ≤ 5 from (hI38 0 71).1)
                  have f50 := (show 0 ≤ I38 0 72 ∧ I38 0 72 ≤ 1000 from (hI38 0 72).1)
                  have f51 := (show 0 ≤ I38 0 73 ∧ I38 0 73 ≤ 1001 from (hI38 0 73).1)
                  have f52 := (show 0 ≤ I38 0 69 ∧ I38 0 69 ≤ 1000 from (hI38 0 69).1)
                  have f53 := (show (-1) ≤ I38 0 6 ∧ I38 0 6 ≤ 7 from (hI38 0 6).1)
                  have f54 := (show 0 ≤ I38 0 59 ∧ I38 0 59 ≤ 2000 from (hI38 0 59).1)
                  have f55 := (show 0 ≤ I38 0 42 ∧ I38 0 42 ≤ 2000 from (hI38 0 42).1)
                  have L291 : ∀ (v4_56 : Int), 0 ≤ v1_10 ∧ v1_10 ≤ 7 → 0 ≤ v4_56 ∧ v4_56 ≤ 358 → 0 ≤ v5_40 ∧ v5_40 ≤ 357 → (3 * v4_56 ≤ 74 + I38 0 72) → (v5_40 < v4_56) → (I38 0 71 = 5 ∨ I38 0 73 ≤ I38 0 69) → (I38 0 72 ≤ I38 0 69) → (I38 0 71 = 0 ∨ (I38 0 72 < I38 0 73 ∧ I38 0 72 < I38 0 69)) → (I38 0 71 = 3 → 2 ≤ I38 0 73 - I38 0 72 ∧ I38 0 73 - I38 0 72 ≤ 14) → (I38 0 72 ≤ I38 0 73) → (I38 0 69 = I 0 69) → (I 0 73 ≤ I38 0 73) → (I 0 72 ≤ I38 0 72) → (I38 0 6 = I 0 6) → (I38 0 59 - I38 0 72 ≤ I 0 59 - I 0 72) → (I38 0 42 - I38 0 72 ≤ I 0 42 - I 0 72) → gv_X (gr_E ws0 tb 11 (yX13_pattern, cX13_pattern, 8, (some .boolean)) kX13_pattern) (gv_Q cX13_pattern (some .boolean) (gr_sh ++ ext) (fun r h' => (∃ (I' : gr_I) (J' : gr_J), h' = gr_h I' J' ∧ gr_Inv I' ∧ gr_fr [42, 59, 71, 72, 73, 74, 75, 76, 77, 106] [17, 23, 31, 32, 33, 34, 35, 51, 57, 64, 65, 66] I I' ∧ gr_fj [42, 59, 71, 72, 73, 74, 75, 76, 77, 106] [17, 23, 31, 32, 33, 34, 35, 51, 57, 64, 65, 66] J J' ∧ (∃ z : Int, r = some (.inl z) ∧ 0 ≤ z ∧ z ≤ 1 ∧ (I' 0 71 = 5 ∨ I' 0 73 ≤ I' 0 69) ∧ (I' 0 72 ≤ I' 0 69) ∧ (I' 0 71 = 0 ∨ (I' 0 72 < I' 0 73 ∧ I' 0 72 < I' 0 69)) ∧ (I' 0 71 = 3 → 2 ≤ I' 0 73 - I' 0 72 ∧ I' 0 73 - I' 0 72 ≤ 14) ∧ (I' 0 72 ≤ I' 0 73) ∧ (I' 0 69 = I 0 69) ∧ (I 0 73 ≤ I' 0 73) ∧ (I 0 72 ≤ I' 0 72) ∧ (I' 0 59 - I' 0 72 ≤ I 0 59 - I 0 72) ∧ (I' 0 42 - I' 0 72 ≤ I 0 42 - I 0 72))))) (291, [(0, .inr (.inr (some 0))), (1, .inl v1_10), (2, .inr (.inl v2_10)), (4, .inl v4_56), (5, .inl v5_40)], [], gr_sh ++ ext, gr_h I38 J39) := by
                    intro v4_56 hv1_10_56 hv4_56 hv5_40_56 e0_56 e1_56 e2_56 e3_56 e4_56 e5_56 e6_56 e7_56 e8_56 e9_56 e10_56 e11_56 e12_56
                    have f57 := (show 0 ≤ I38 0 71 ∧ I38 0 71 ≤ 5 from (hI38 0 71).1)
                    have f58 := (show 0 ≤ I38 0 72 ∧ I38 0 72 ≤ 1000 from (hI38 0 72).1)
                    have f59 := (show 0 ≤ I38 0 73 ∧ I38 0 73 ≤ 1001 from (hI38 0 73).1)
                    have f60 := (show 0 ≤ I38 0 69 ∧ I38 0 69 ≤ 1000 from (hI38 0 69).1)
                    have f61 := (show (-1) ≤ I38 0 6 ∧ I38 0 6 ≤ 7 from (hI38 0 6).1)
                    have f62 := (show 0 ≤ I38 0 59 ∧ I38 0 59 ≤ 2000 from (hI38 0 59).1)
                    have f63 := (show 0 ≤ I38 0 42 ∧ I38 0 42 ≤ 2000 from (hI38 0 42).1)
                    have L365 : ∀ (I64 : gr_I) (J65 : gr_J) , gr_Inv I64 → gr_fr [42, 59, 71, 72, 73, 74, 75, 76, 77, 106] [17, 23, 31, 32, 33, 34, 35, 51, 57, 64, 65, 66] I I64 → gr_fj [42, 59, 71, 72, 73, 74, 75, 76, 77, 106] [17, 23, 31, 32, 33, 34, 35, 51, 57, 64, 65, 66] J J65 → 0 ≤ v1_10 ∧ v1_10 ≤ 7 → 0 ≤ v4_56 ∧ v4_56 ≤ 358 → (3 * v4_56 ≤ 73 + I64 0 72) → (I64 0 71 = 5 ∨ I64 0 73 ≤ I64 0 69) → (I64 0 72 ≤ I64 0 69) → (I64 0 71 = 0 ∨ (I64 0 72 < I64 0 73 ∧ I64 0 72 < I64 0 69)) → (I64 0 71 = 3 → 2 ≤ I64 0 73 - I64 0 72 ∧ I64 0 73 - I64 0 72 ≤ 14) → (I64 0 72 ≤ I64 0 73) → (I64 0 69 = I 0 69) → (I 0 73 ≤ I64 0 73) → (I 0 72 ≤ I64 0 72) → (I64 0 6 = I 0 6) → (I64 0 59 - I64 0 72 ≤ I 0 59 - I 0 72) → (I64 0 42 - I64 0 72 ≤ I 0 42 - I 0 72) → gv_X (gr_E ws0 tb 11 (yX13_pattern, cX13_pattern, 8, (some .boolean)) kX13_pattern) (gv_Q cX13_pattern (some .boolean) (gr_sh ++ ext) (fun r h' => (∃ (I' : gr_I) (J' : gr_J), h' = gr_h I' J' ∧ gr_Inv I' ∧ gr_fr [42, 59, 71, 72, 73, 74, 75, 76, 77, 106] [17, 23, 31, 32, 33, 34, 35, 51, 57, 64, 65, 66] I I' ∧ gr_fj [42, 59, 71, 72, 73, 74, 75, 76, 77, 106] [17, 23, 31, 32, 33, 34, 35, 51, 57, 64, 65, 66] J J' ∧ (∃ z : Int, r = some (.inl z) ∧ 0 ≤ z ∧ z ≤ 1 ∧ (I' 0 71 = 5 ∨ I' 0 73 ≤ I' 0 69) ∧ (I' 0 72 ≤ I' 0 69) ∧ (I' 0 71 = 0 ∨ (I' 0 72 < I' 0 73 ∧ I' 0 72 < I' 0 69)) ∧ (I' 0 71 = 3 → 2 ≤ I' 0 73 - I' 0 72 ∧ I' 0 73 - I' 0 72 ≤ 14) ∧ (I' 0 72 ≤ I' 0 73) ∧ (I' 0 69 = I 0 69) ∧ (I 0 73 ≤ I' 0 73) ∧ (I 0 72 ≤ I' 0 72) ∧ (I' 0 59 - I' 0 72 ≤ I 0 59 - I 0 72) ∧ (I' 0 42 - I' 0 72 ≤ I 0 42 - I 0 72))))) (365, [(0, .inr (.inr (some 0))), (1, .inl v1_10), (2, .inr (.inl v2_10)), (4, .inl v4_56)], [], gr_sh ++ ext, gr_h I64 J65) := by
                      intro I64 J65 hI64 FI64 FJ65 hv1_10_66 hv4_56_66 e0_66 e1_66 e2_66 e3_66 e4_66 e5_66 e6_66 e7_66 e8_66 e9_66 e10_66 e11_66
                      have f67 := (show 0 ≤ I64 0 71 ∧ I64 0 71 ≤ 5 from (hI64 0 71).1)
                      have f68 := (show 0 ≤ I64 0 72 ∧ I64 0 72 ≤ 1000 from (hI64 0 72).1)
                      have f69 := (show 0 ≤ I64 0 73 ∧ I64 0 73 ≤ 1001 from (hI64 0 73).1)
                      have f70 := (show 0 ≤ I64 0 69 ∧ I64 0 69 ≤ 1000 from (hI64 0 69).1)
                      have f71 := (show (-1) ≤ I64 0 6 ∧ I64 0 6 ≤ 7 from (hI64 0 6).1)
                      have f72 := (show 0 ≤ I64 0 59 ∧ I64 0 59 ≤ 2000 from (hI64 0 59).1)
                      have f73 := (show 0 ≤ I64 0 42 ∧ I64 0 42 ≤ 2000 from (hI64 0 42).1)
                      have L423 : ∀ (I74 : gr_I) (J75 : gr_J) , gr_Inv I74 → gr_fr [42, 59, 71, 72, 73, 74, 75, 76, 77, 106] [17, 23, 31, 32, 33, 34, 35, 51, 57, 64, 65, 66] I I74 → gr_fj [42, 59, 71, 72, 73, 74, 75, 76, 77, 106] [17, 23, 31, 32, 33, 34, 35, 51, 57, 64, 65, 66] J J75 → (I74 0 71 = 5 ∨ I74 0 73 ≤ I74 0 69) → (I74 0 72 ≤ I74 0 69) → (I74 0 71 = 0 ∨ (I74 0 72 < I74 0 73 ∧ I74 0 72 < I74 0 69)) → (I74 0 71 = 3 → 2 ≤ I74 0 73 - I74 0 72 ∧ I74 0 73 - I74 0 72 ≤ 14) → (I74 0 72 ≤ I74 0 73) → (I74 0 69 = I 0 69) → (I 0 73 ≤ I74 0 73) → (I 0 72 ≤ I74 0 72) → (I74 0 6 = I 0 6) → (I74 0 59 - I74 0 72 ≤ I 0 59 - I 0 72) → (I74 0 42 - I74 0 72 ≤ I 0 42 - I 0 72) → gv_X (gr_E ws0 tb 11 (yX13_pattern, cX13_pattern, 8, (some .boolean)) kX13_pattern) (gv_Q cX13_pattern (some .boolean) (gr_sh ++ ext) (fun r h' => (∃ (I' : gr_I) (J' : gr_J), h' = gr_h I' J' ∧ gr_Inv I' ∧ gr_fr [42, 59, 71, 72, 73, 74, 75, 76, 77, 106] [17, 23, 31, 32, 33, 34, 35, 51, 57, 64, 65, 66] I I' ∧ gr_fj [42, 59, 71, 72, 73, 74, 75, 76, 77, 106] [17, 23, 31, 32, 33, 34, 35, 51, 57, 64, 65, 66] J J' ∧ (∃ z : Int, r = some (.inl z) ∧ 0 ≤ z ∧ z ≤ 1 ∧ (I' 0 71 = 5 ∨ I' 0 73 ≤ I' 0 69) ∧ (I' 0 72 ≤ I' 0 69) ∧ (I' 0 71 = 0 ∨ (I' 0 72 < I' 0 73 ∧ I' 0 72 < I' 0 69)) ∧ (I' 0 71 = 3 → 2 ≤ I' 0 73 - I' 0 72 ∧ I' 0 73 - I' 0 72 ≤ 14) ∧ (I' 0 72 ≤ I' 0 73) ∧ (I' 0 69 = I 0 69) ∧ (I 0 73 ≤ I' 0 73) ∧ (I 0 72 ≤ I' 0 72) ∧ (I' 0 59 - I' 0 72 ≤ I 0 59 - I 0 72) ∧ (I' 0 42 - I' 0 72 ≤ I 0 42 - I 0 72))))) (423, [], [], gr_sh ++ ext, gr_h I74 J75) := by
                        intro I74 J75 hI74 FI74 FJ75 e0_76 e1_76 e2_76 e3_76 e4_76 e5_76 e6_76 e7_76 e8_76 e9_76 e10_76
                        have f77 := (show 0 ≤ I74 0 71 ∧ I74 0 71 ≤ 5 from (hI74 0 71).1)
                        have f78 := (show 0 ≤ I74 0 72 ∧ I74 0 72 ≤ 1000 from (hI74 0 72).1)
                        have f79 := (show 0 ≤ I74 0 73 ∧ I74 0 73 ≤ 1001 from (hI74 0 73).1)
                        have f80 := (show 0 ≤ I74 0 69 ∧ I74 0 69 ≤ 1000 from (hI74 0 69).1)
                        have f81 := (show (-1) ≤ I74 0 6 ∧ I74 0 6 ≤ 7 from (hI74 0 6).1)
                        have f82 := (show 0 ≤ I74 0 59 ∧ I74 0 59 ≤ 2000 from (hI74 0 59).1)
                        have f83 := (show 0 ≤ I74 0 42 ∧ I74 0 42 ≤ 2000 from (hI74 0 42).1)
                        refine gv_run 1 true hD (pc' := 424) (lv' := []) (st' := [.inl 0]) (h' := gr_h I74 J75) (C := (True ∧ True)) rfl ⟨trivial, trivial⟩ ?_
                        exact gv_zret hD rfl (by omega) ⟨I74, J75, rfl, hI74, FI74, FJ75, ⟨_, rfl, by omega, by omega, by omega, by omega, by omega, by omega, by omega, by omega, by omega, by omega, by omega, by omega⟩⟩
                      have L417 : ∀ (I84 : gr_I) (J85 : gr_J) (s1_86 : Int), gr_Inv I84 → gr_fr [42, 59, 71, 72, 73, 74, 75, 76, 77, 106] [17, 23, 31, 32, 33, 34, 35, 51, 57, 64, 65, 66] I I84 → gr_fj [42, 59, 71, 72, 73, 74, 75, 76, 77, 106] [17, 23, 31, 32, 33, 34, 35, 51, 57, 64, 65, 66] J J85 → 0 ≤ v1_10 ∧ v1_10 ≤ 7 → 0 ≤ v4_56 ∧ v4_56 ≤ 358 → 0 ≤ s1_86 ∧ s1_86 ≤ 1 → (s1_86 = 0 ∨ (v4_56 ≤ 24 ∧ I84 17 (Int.toNat v1_10) ≤ 23)) → (I84 0 71 = 5 ∨ I84 0 73 ≤ I84 0 69) → (I84 0 72 ≤ I84 0 69) → (I84 0 71 = 0 ∨ (I84 0 72 < I84 0 73 ∧ I84 0 72 < I84 0 69)) → (I84 0 71 = 3 → 2 ≤ I84 0 73 - I84 0 72 ∧ I84 0 73 - I84 0 72 ≤ 14) → (I84 0 72 ≤ I84 0 73) → (I84 0 69 = I 0 69) → (I 0 73 ≤ I84 0 73) → (I 0 72 ≤ I84 0 72) → (I84 0 6 = I 0 6) → (I84 0 59 - I84 0 72 ≤ I 0 59 - I 0 72) → (I84 0 42 - I84 0 72 ≤ I 0 42 - I 0 72) → gv_X (gr_E ws0 tb 11 (yX13_pattern, cX13_pattern, 8, (some .boolean)) kX13_pattern) (gv_Q cX13_pattern (some .boolean) (gr_sh ++ ext) (fun r h' => (∃ (I' : gr_I) (J' : gr_J), h' = gr_h I' J' ∧ gr_Inv I' ∧ gr_fr [42, 59, 71, 72, 73, 74, 75, 76, 77, 106] [17, 23, 31, 32, 33, 34, 35, 51, 57, 64, 65, 66] I I' ∧ gr_fj [42, 59, 71, 72, 73, 74, 75, 76, 77, 106] [17, 23, 31, 32, 33, 34, 35, 51, 57, 64, 65, 66] J J' ∧ (∃ z : Int, r = some (.inl z) ∧ 0 ≤ z ∧ z ≤ 1 ∧ (I' 0 71 = 5 ∨ I' 0 73 ≤ I' 0 69) ∧ (I' 0 72 ≤ I' 0 69) ∧ (I' 0 71 = 0 ∨ (I' 0 72 < I' 0 73 ∧ I' 0 72 < I' 0 69)) ∧ (I' 0 71 = 3 → 2 ≤ I' 0 73 - I' 0 72 ∧ I' 0 73 - I' 0 72 ≤ 14) ∧ (I' 0 72 ≤ I' 0 73) ∧ (I' 0 69 = I 0 69) ∧ (I 0 73 ≤ I' 0 73) ∧ (I 0 72 ≤ I' 0 72) ∧ (I' 0 59 - I' 0 72 ≤ I 0 59 - I 0 72) ∧ (I' 0 42 - I' 0 72 ≤ I 0 42 - I 0 72))))) (417, [(0, .inr (.inr (some 0))), (1, .inl v1_10), (2, .inr (.inl v2_10)), (4, .inl v4_56)], [.inl s1_86, .inr (.inr (some 0))], gr_sh ++ ext, gr_h I84 J85) := by
                        intro I84 J85 s1_86 hI84 FI84 FJ85 hv1_10_86 hv4_56_86 hs1_86 e0_86 e1_86 e2_86 e3_86 e4_86 e5_86 e6_86 e7_86 e8_86 e9_86 e10_86 e11_86
                        have f87 := (show 0 ≤ I84 0 71 ∧ I84 0 71 ≤ 5 from (hI84 0 71).1)
                        have f88 := (show 0 ≤ I84 0 72 ∧ I84 0 72 ≤ 1000 from (hI84 0 72).1)
                        have f89 := (show 0 ≤ I84 0 73 ∧ I84 0 73 ≤ 1001 from (hI84 0 73).1)
                        have f90 := (show 0 ≤ I84 0 69 ∧ I84 0 69 ≤ 1000 from (hI84 0 69).1)
                        have f91 := (show (-1) ≤ I84 0 6 ∧ I84 0 6 ≤ 7 from (hI84 0 6).1)
                        have f92 := (show 0 ≤ I84 0 59 ∧ I84 0 59 ≤ 2000 from (hI84 0 59).1)
                        have f93 := (show 0 ≤ I84 0 42 ∧ I84 0 42 ≤ 2000 from (hI84 0 42).1)
                        have L463 : ∀ (n : Nat) (I94 : gr_I) (J95 : gr_J) (v5_96 : Int) (v6_96 : Int), (25 - v6_96).toNat < n → gr_Inv I94 → gr_fr [42, 59, 71, 72, 73, 74, 75, 76, 77, 106] [17, 23, 31, 32, 33, 34, 35, 51, 57, 64, 65, 66] I I94 → gr_fj [42, 59, 71, 72, 73, 74, 75, 76, 77, 106] [17, 23, 31, 32, 33, 34, 35, 51, 57, 64, 65, 66] J J95 → 0 ≤ v4_56 ∧ v4_56 ≤ 24 → 0 ≤ v5_96 ∧ v5_96 ≤ 191 → 0 ≤ v6_96 ∧ v6_96 ≤ 24 → (I94 0 71 = 5 ∨ I94 0 73 ≤ I94 0 69) → (I94 0 72 ≤ I94 0 69) → (I94 0 71 = 0 ∨ (I94 0 72 < I94 0 73 ∧ I94 0 72 < I94 0 69)) → (I94 0 71 = 3 → 2 ≤ I94 0 73 - I94 0 72 ∧ I94 0 73 - I94 0 72 ≤ 14) → (I94 0 72 ≤ I94 0 73) → (I94 0 69 = I 0 69) → (I 0 73 ≤ I94 0 73) → (I 0 72 ≤ I94 0 72) → (I94 0 6 = I 0 6) → (I94 0 59 - I94 0 72 ≤ I 0 59 - I 0 72) → (I94 0 42 - I94 0 72 ≤ I 0 42 - I 0 72) → gv_X (gr_E ws0 tb 11 (yX13_pattern, cX13_pattern, 8, (some .boolean)) kX13_pattern) (gv_Q cX13_pattern (some .boolean) (gr_sh ++ ext) (fun r h' => (∃ (I' : gr_I) (J' : gr_J), h' = gr_h I' J' ∧ gr_Inv I' ∧ gr_fr [42, 59, 71, 72, 73, 74, 75, 76, 77, 106] [17, 23, 31, 32, 33, 34, 35, 51, 57, 64, 65, 66] I I' ∧ gr_fj [42, 59, 71, 72, 73, 74, 75, 76, 77, 106] [17, 23, 31, 32, 33, 34, 35, 51, 57, 64, 65, 66] J J' ∧ (∃ z : Int, r = some (.inl z) ∧ 0 ≤ z ∧ z ≤ 1 ∧ (I' 0 71 = 5 ∨ I' 0 73 ≤ I' 0 69) ∧ (I' 0 72 ≤ I' 0 69) ∧ (I' 0 71 = 0 ∨ (I' 0 72 < I' 0 73 ∧ I' 0 72 < I' 0 69)) ∧ (I' 0 71 = 3 → 2 ≤ I' 0 73 - I' 0 72 ∧ I' 0 73 - I' 0 72 ≤ 14) ∧ (I' 0 72 ≤ I' 0 73) ∧ (I' 0 69 = I 0 69) ∧ (I 0 73 ≤ I' 0 73) ∧ (I 0 72 ≤ I' 0 72) ∧ (I' 0 59 - I' 0 72 ≤ I 0 59 - I 0 72) ∧ (I' 0 42 - I' 0 72 ≤ I 0 42 - I 0 72))))) (463, [(0, .inr (.inr (some 0))), (4, .inl v4_56), (5, .inl v5_96), (6, .inl v6_96)], [], gr_sh ++ ext, gr_h I94 J95) := by
                          intro n
                          induction n with
                          | zero => intro I94 J95 v5_96 v6_96 hn; omega
                          | succ n ih463 =>
                            intro I94 J95 v5_96 v6_96 hn hI94 FI94 FJ95 hv4_56_96 hv5_96 hv6_96 e0_96 e1_96 e2_96 e3_96 e4_96 e5_96 e6_96 e7_96 e8_96 e9_96 e10_96
                            have f97 := (show 0 ≤ I94 0 71 ∧ I94 0 71 ≤ 5 from (hI94 0 71).1)
                            have f98 := (show 0 ≤ I94 0 72 ∧ I94 0 72 ≤ 1000 from (hI94 0 72).1)
                            have f99 := (show 0 ≤ I94 0 73 ∧ I94 0 73 ≤ 1001 from (hI94 0 73).1)
                            have f100 := (show 0 ≤ I94 0 69 ∧ I94 0 69 ≤ 1000 from (hI94 0 69).1)
                            have f101 := (show (-1) ≤ I94 0 6 ∧ I94 0 6 ≤ 7 from (hI94 0 6).1)
                            have f102 := (show 0 ≤ I94 0 59 ∧ I94 0 59 ≤ 2000 from (hI94 0 59).1)
                            have f103 := (show 0 ≤ I94 0 42 ∧ I94 0 42 ≤ 2000 from (hI94 0 42).1)
                            refine gv_run 2 true hD (pc' := 467) (lv' := [(0, .inr (.inr (some 0))), (4, .inl v4_56), (5, .inl v5_96), (6, .inl v6_96)]) (st' := [.inl v4_56, .inl v6_96]) (h' := gr_h I94 J95) (C := ((True ∧ True) ∧ True)) rfl ⟨⟨trivial, trivial⟩, trivial⟩ ?_
                            refine gv_icmp_ge (t := 536) hD rfl rfl ⟨⟨by omega, by omega⟩, ⟨by omega, by omega⟩⟩ (fun c104 => ?_) (fun c104 => ?_)
                            · refine gv_run 1 true hD (pc' := 537) (lv' := [(0, .inr (.inr (some 0))), (4, .inl v4_56), (5, .inl v5_96), (6, .inl v6_96)]) (st' := [.inl 1]) (h' := gr_h I94 J95) (C := (True ∧ True)) rfl ⟨trivial, trivial⟩ ?_
                              exact gv_zret hD rfl (by omega) ⟨I94, J95, rfl, hI94, FI94, FJ95, ⟨_, rfl, by omega, by omega, by omega, by omega, by omega, by omega, by omega, by omega, by omega, by omega, by omega, by omega⟩⟩
                            · refine gv_run 7 true hD (pc' := 482) (lv' := [(0, .inr (.inr (some 0))), (4, .inl v4_56), (5, .inl v5_96), (6, .inl v6_96)]) (st' := [.inl ((24 * v5_96) + v6_96), .inr (.inr (some 32))]) (h' := gr_h I94 J95) (C := (((((((True ∧ True) ∧ True) ∧ True) ∧ True) ∧ True) ∧ True) ∧ True)) rfl ⟨⟨⟨⟨⟨⟨⟨trivial, trivial⟩, trivial⟩, trivial⟩, trivial⟩, trivial⟩, trivial⟩, trivial⟩ ?_
                              have f105 := (show 0 ≤ I94 64 (Int.toNat v6_96) ∧ I94 64 (Int.toNat v6_96) ≤ 16777215 from (hI94 64 (Int.toNat v6_96)).1)
                              refine gv_run 4 true hD (pc' := 489) (lv' := [(0, .inr (.inr (some 0))), (4, .inl v4_56), (5, .inl v5_96), (6, .inl v6_96)]) (st' := [.inl (I94 64 (Int.toNat v6_96)), .inl ((24 * v5_96) + v6_96), .inr (.inr (some 32))]) (h' := gr_h I94 J95) (C := ((((True ∧ True) ∧ True) ∧ True) ∧ (0 ≤ v6_96 ∧ v6_96 < ((420 : Nat) : Int)))) rfl ⟨⟨⟨⟨trivial, trivial⟩, trivial⟩, trivial⟩, ⟨by omega, by omega⟩⟩ ?_
                              refine gv_run 1 true hD (pc' := 490) (lv' := [(0, .inr (.inr (some 0))), (4, .inl v4_56), (5, .inl v5_96), (6, .inl v6_96)]) (st' := []) (h' := gz_up (gr_h I94 J95) 32 (Int.toNat (((24 * v5_96) + v6_96))) (.inl ((I94 64 (Int.toNat v6_96))))) (C := (True ∧ (0 ≤ (((24 * v5_96) + v6_96)) ∧ (((24 * v5_96) + v6_96)) < ((4608 : Nat) : Int)))) rfl ⟨trivial, ⟨by omega, by omega⟩⟩ ?_
                              refine gr_st hI94 FI94 rfl rfl ⟨⟨by show 0 ≤ _; omega, by show _ ≤ 16777215; omega⟩, trivial⟩ (fun I106 hI106 FI106 q107 p107 => ?_)
                              have t108 := p107 0 71 (fun q => absurd q.1 (by decide))
                              have t109 := p107 0 72 (fun q => absurd q.1 (by decide))
                              have t110 := p107 0 73 (fun q => absurd q.1 (by decide))
                              have t111 := p107 0 69 (fun q => absurd q.1 (by decide))
                              have t112 := p107 0 6 (fun q => absurd q.1 (by decide))
                              have t113 := p107 0 59 (fun q => absurd q.1 (by decide))
                              have t114 := p107 0 42 (fun q => absurd q.1 (by decide))
                              have t115 := p107 65 (Int.toNat v5_96) (fun q => absurd q.1 (by decide))
                              have f116 := (show 0 ≤ I106 0 71 ∧ I106 0 71 ≤ 5 from (hI106 0 71).1)
                              have f117 := (show 0 ≤ I106 0 72 ∧ I106 0 72 ≤ 1000 from (hI106 0 72).1)
                              have f118 := (show 0 ≤ I106 0 73 ∧ I106 0 73 ≤ 1001 from (hI106 0 73).1)
                              have f119 := (show 0 ≤ I106 0 69 ∧ I106 0 69 ≤ 1000 from (hI106 0 69).1)
                              have f120 := (show (-1) ≤ I106 0 6 ∧ I106 0 6 ≤ 7 from (hI106 0 6).1)
                              have f121 := (show 0 ≤ I106 0 59 ∧ I106 0 59 ≤ 2000 from (hI106 0 59).1)
                              have f122 := (show 0 ≤ I106 0 42 ∧ I106 0 42 ≤ 2000 from (hI106 0 42).1)
                              refine gv_run 7 true hD (pc' := 502) (lv' := [(0, .inr (.inr (some 0))), (4, .inl v4_56), (5, .inl v5_96), (6, .inl v6_96)]) (st' := [.inl ((24 * v5_96) + v6_96), .inr (.inr (some 33))]) (h' := gr_h I106 J95) (C := (((((((True ∧ True) ∧ True) ∧ True) ∧ True) ∧ True) ∧ True) ∧ True)) rfl ⟨⟨⟨⟨⟨⟨⟨trivial, trivial⟩, trivial⟩, trivial⟩, trivial⟩, trivial⟩, trivial⟩, trivial⟩ ?_
                              have f123 := (show 0 ≤ I106 65 (Int.toNat v6_96) ∧ I106 65 (Int.toNat v6_96) ≤ 2000 from (hI106 65 (Int.toNat v6_96)).1)
                              refine gv_run 4 true hD (pc' := 509) (lv' := [(0, .inr (.inr (some 0))), (4, .inl v4_56), (5, .inl v5_96), (6, .inl v6_96)]) (st' := [.inl (I106 65 (Int.toNat v6_96)), .inl ((24 * v5_96) + v6_96), .inr (.inr (some 33))]) (h' := gr_h I106 J95) (C := ((((True ∧ True) ∧ True) ∧ True) ∧ (0 ≤ v6_96 ∧ v6_96 < ((420 : Nat) : Int)))) rfl ⟨⟨⟨⟨trivial, trivial⟩, trivial⟩, trivial⟩, ⟨by omega, by omega⟩⟩ ?_
                              refine gv_run 1 true hD (pc' := 510) (lv' := [(0, .inr (.inr (some 0))), (4, .inl v4_56), (5, .inl v5_96), (6, .inl v6_96)]) (st' := []) (h' := gz_up (gr_h I106 J95) 33 (Int.toNat (((24 * v5_96) + v6_96))) (.inl ((I106 65 (Int.toNat v6_96))))) (C := (True ∧ (0 ≤ (((24 * v5_96) + v6_96)) ∧ (((24 * v5_96) + v6_96)) < ((4608 : Nat) : Int)))) rfl ⟨trivial, ⟨by omega, by omega⟩⟩ ?_
                              refine gr_st hI106 FI106 rfl rfl ⟨⟨by show 0 ≤ _; omega, by show _ ≤ 2000; omega⟩, trivial⟩ (fun I124 hI124 FI124 q125 p125 => ?_)
                              have t126 := p125 0 71 (fun q => absurd q.1 (by decide))
                              have t127 := p125 0 72 (fun q => absurd q.1 (by decide))
                              have t128 := p125 0 73 (fun q => absurd q.1 (by decide))
                              have t129 := p125 0 69 (fun q => absurd q.1 (by decide))
                              have t130 := p125 0 6 (fun q => absurd q.1 (by decide))
                              have t131 := p125 0 59 (fun q => absurd q.1 (by decide))
                              have t132 := p125 0 42 (fun q => absurd q.1 (by decide))
                              have t133 := p125 65 (Int.toNat v5_96) (fun q => absurd q.1 (by decide))
                              have f134 := (show 0 ≤ I124 0 71 ∧ I124 0 71 ≤ 5 from (hI124 0 71).1)
                              have f135 := (show 0 ≤ I124 0 72 ∧ I124 0 72 ≤ 1000 from (hI124 0 72).1)
                              have f136 := (show 0 ≤ I124 0 73 ∧ I124 0 73 ≤ 1001 from (hI124 0 73).1)
                              have f137 := (show 0 ≤ I124 0 69 ∧ I124 0 69 ≤ 1000 from (hI124 0 69).1)
                              have f138 := (show (-1) ≤ I124 0 6 ∧ I124 0 6 ≤ 7 from (hI124 0 6).1)
                              have f139 := (show 0 ≤ I124 0 59 ∧ I124 0 59 ≤ 2000 from (hI124 0 59).1)
                              have f140 := (show 0 ≤ I124 0 42 ∧ I124 0 42 ≤ 2000 from (hI124 0 42).1)
                              refine gv_run 7 true hD (pc' := 522) (lv' := [(0, .inr (.inr (some 0))), (4, .inl v4_56), (5, .inl v5_96), (6, .inl v6_96)]) (st' := [.inl ((24 * v5_96) + v6_96), .inr (.inr (some 34))]) (h' := gr_h I124 J95) (C := (((((((True ∧ True) ∧ True) ∧ True) ∧ True) ∧ True) ∧ True) ∧ True)) rfl ⟨⟨⟨⟨⟨⟨⟨trivial, trivial⟩, trivial⟩, trivial⟩, trivial⟩, trivial⟩, trivial⟩, trivial⟩ ?_
                              have f141 := (show (-1) ≤ I124 66 (Int.toNat v6_96) ∧ I124 66 (Int.toNat v6_96) ≤ 2000 from (hI124 66 (Int.toNat v6_96)).1)
                              refine gv_run 4 true hD (pc' := 529) (lv' := [(0, .inr (.inr (some 0))), (4, .inl v4_56), (5, .inl v5_96), (6, .inl v6_96)]) (st' := [.inl (I124 66 (Int.toNat v6_96)), .inl ((24 * v5_96) + v6_96), .inr (.inr (some 34))]) (h' := gr_h I124 J95) (C := ((((True ∧ True) ∧ True) ∧ True) ∧ (0 ≤ v6_96 ∧ v6_96 < ((420 : Nat) : Int)))) rfl ⟨⟨⟨⟨trivial, trivial⟩, trivial⟩, trivial⟩, ⟨by omega, by omega⟩⟩ ?_
                              refine gv_run 1 true hD (pc' := 530) (lv' := [(0, .inr (.inr (some 0))), (4, .inl v4_56), (5, .inl v5_96), (6, .inl v6_96)]) (st' := []) (h' := gz_up (gr_h I124 J95) 34 (Int.toNat (((24 * v5_96) + v6_96))) (.inl ((I124 66 (Int.toNat v6_96))))) (C := (True ∧ (0 ≤ (((24 * v5_96) + v6_96)) ∧ (((24 * v5_96) + v6_96)) < ((4608 : Nat) : Int)))) rfl ⟨trivial, ⟨by omega, by omega⟩⟩ ?_
                              refine gr_st hI124 FI124 rfl rfl ⟨⟨by show (-1) ≤ _; omega, by show _ ≤ 2000; omega⟩, trivial⟩ (fun I142 hI142 FI142 q143 p143 => ?_)
                              have t144 := p143 0 71 (fun q => absurd q.1 (by decide))
                              have t145 := p143 0 72 (fun q => absurd q.1 (by decide))
                              have t146 := p143 0 73 (fun q => absurd q.1 (by decide))
                              have t147 := p143 0 69 (fun q => absurd q.1 (by decide))
                              have t148 := p143 0 6 (fun q => absurd q.1 (by decide))
                              have t149 := p143 0 59 (fun q => absurd q.1 (by decide))
                              have t150 := p143 0 42 (fun q => absurd q.1 (by decide))
                              have t151 := p143 65 (Int.toNat v5_96) (fun q => absurd q.1 (by decide))
                              have f152 := (show 0 ≤ I142 0 71 ∧ I142 0 71 ≤ 5 from (hI142 0 71).1)
                              have f153 := (show 0 ≤ I142 0 72 ∧ I142 0 72 ≤ 1000 from (hI142 0 72).1)
                              have f154 := (show 0 ≤ I142 0 73 ∧ I142 0 73 ≤ 1001 from (hI142 0 73).1)
                              have f155 := (show 0 ≤ I142 0 69 ∧ I142 0 69 ≤ 1000 from (hI142 0 69).1)
                              have f156 := (show (-1) ≤ I142 0 6 ∧ I142 0 6 ≤ 7 from (hI142 0 6).1)
                              have f157 := (show 0 ≤ I142 0 59 ∧ I142 0 59 ≤ 2000 from (hI142 0 59).1)
                              have f158 := (show 0 ≤ I142 0 42 ∧ I142 0 42 ≤ 2000 from (hI142 0 42).1)
                              refine gv_run 2 true hD (pc' := 463) (lv' := [(6, .inl (v6_96 + 1)), (0, .inr (.inr (some 0))), (4, .inl v4_56), (5, .inl v5_96)]) (st' := []) (h' := gr_h I142 J95) (C := ((True ∧ True) ∧ True)) rfl ⟨⟨trivial, trivial⟩, trivial⟩ ?_
                              refine gv_pick [1, 2, 3, 0] rfl ?_
                              exact ih463 I142 J95 v5_96 (v6_96 + 1) (by omega) hI142 FI142 FJ95 ⟨by omega, by omega⟩ ⟨by omega, by omega⟩ ⟨by omega, by omega⟩ (by omega) (by omega) (by omega) (by omega) (by omega) (by omega) (by omega) (by omega) (by omega) (by omega) (by omega)
                        obtain ⟨r159, h159, E159, P159⟩ := r_done (ws0 := ws0) (tb := tb) hws htb ext I84 J85 hI84 s1_86 ⟨by omega, by omega⟩ (by omega) (by omega) (by omega) (by omega) (by omega)
                        obtain ⟨I160, J161, rfl, hI160, g159, k159, ⟨z159, rfl, q159⟩⟩ := P159
                        have FI160 := gr_frt FI84 g159 rfl rfl
                        have FJ161 := gr_fjt FJ85 k159 rfl rfl
                        have t162 := g159 0 69 rfl
                        have t163 := g159 0 6 rfl
                        have t164 := g159 0 59 rfl
                        have t165 := g159 0 42 rfl
                        have t166 := g159 17 (Int.toNat v1_10) rfl
                        have f167 := (show 0 ≤ I160 0 71 ∧ I160 0 71 ≤ 5 from (hI160 0 71).1)
                        have f168 := (show 0 ≤ I160 0 72 ∧ I160 0 72 ≤ 1000 from (hI160 0 72).1)
                        have f169 := (show 0 ≤ I160 0 73 ∧ I160 0 73 ≤ 1001 from (hI160 0 73).1)
                        have f170 := (show 0 ≤ I160 0 69 ∧ I160 0 69 ≤ 1000 from (hI160 0 69).1)
                        have f171 := (show (-1) ≤ I160 0 6 ∧ I160 0 6 ≤ 7 from (hI160 0 6).1)
                        have f172 := (show 0 ≤ I160 0 59 ∧ I160 0 59 ≤ 2000 from (hI160 0 59).1)
                        have f173 := (show 0 ≤ I160 0 42 ∧ I160 0 42 ≤ 2000 from (hI160 0 42).1)
                        refine gv_callV hD rfl (As := [.inl s1_86]) (st := []) rfl (by decide) rfl rfl (gr_lV hws rfl) (Nat.le_of_ble_eq_true rfl) (gz_Ev_mono (d := 11) (by decide) E159) ?_
                        show gv_X _ _ (420, [(0, .inr (.inr (some 0))), (1, .inl v1_10), (2, .inr (.inl v2_10)), (4, .inl v4_56)], [.inl z159], gr_sh ++ ext, gr_h I160 J161)
                        refine gv_if_ne (t := 425) hD rfl rfl ⟨by omega, by omega⟩ (fun c174 => ?_) (fun c174 => ?_)
                        · refine gv_run 7 true hD (pc' := 435) (lv' := [(0, .inr (.inr (some 0))), (1, .inl v1_10), (2, .inr (.inl v2_10)), (4, .inl v4_56)]) (st' := [.inl v1_10, .inr (.inr (some 17)), .inl v1_10, .inr (.inr (some 17)), .inl (24 * v1_10)]) (h' := gr_h I160 J161) (C := (((((((True ∧ True) ∧ True) ∧ True) ∧ True) ∧ True) ∧ True) ∧ True)) rfl ⟨⟨⟨⟨⟨⟨⟨trivial, trivial⟩, trivial⟩, trivial⟩, trivial⟩, trivial⟩, trivial⟩, trivial⟩ ?_
                          have f175 := (show 0 ≤ I160 17 (Int.toNat v1_10) ∧ I160 17 (Int.toNat v1_10) ≤ 24 from (hI160 17 (Int.toNat v1_10)).1)
                          refine gv_run 1 true hD (pc' := 436) (lv' := [(0, .inr (.inr (some 0))), (1, .inl v1_10), (2, .inr (.inl v2_10)), (4, .inl v4_56)]) (st' := [.inl (I160 17 (Int.toNat v1_10)), .inl v1_10, .inr (.inr (some 17)), .inl (24 * v1_10)]) (h' := gr_h I160 J161) (C := (True ∧ (0 ≤ v1_10 ∧ v1_10 < ((8 : Nat) : Int)))) rfl ⟨trivial, ⟨by omega, by omega⟩⟩ ?_
                          refine gv_run 3 true hD (pc' := 439) (lv' := [(0, .inr (.inr (some 0))), (1, .inl v1_10), (2, .inr (.inl v2_10)), (4, .inl v4_56)]) (st' := [.inl ((I160 17 (Int.toNat v1_10)) + 1), .inl v1_10, .inr (.inr (some 17)), .inl (I160 17 (Int.toNat v1_10)), .inl (24 * v1_10)]) (h' := gr_h I160 J161) (C := (((True ∧ True) ∧ True) ∧ True)) rfl ⟨⟨⟨trivial, trivial⟩, trivial⟩, trivial⟩ ?_
                          refine gv_run 1 true hD (pc' := 440) (lv' := [(0, .inr (.inr (some 0))), (1, .inl v1_10), (2, .inr (.inl v2_10)), (4, .inl v4_56)]) (st' := [.inl (I160 17 (Int.toNat v1_10)), .inl (24 * v1_10)]) (h' := gz_up (gr_h I160 J161) 17 (Int.toNat v1_10) (.inl (((I160 17 (Int.toNat v1_10)) + 1)))) (C := (True ∧ (0 ≤ v1_10 ∧ v1_10 < ((8 : Nat) : Int)))) rfl ⟨trivial, ⟨by omega, by omega⟩⟩ ?_
                          refine gr_st hI160 FI160 rfl rfl ⟨⟨by show 0 ≤ _; omega, by show _ ≤ 24; omega⟩, trivial⟩ (fun I176 hI176 FI176 q177 p177 => ?_)
                          have t178 := p177 0 71 (fun q => absurd q.1 (by decide))
                          have t179 := p177 0 72 (fun q => absurd q.1 (by decide))
                          have t180 := p177 0 73 (fun q => absurd q.1 (by decide))
                          have t181 := p177 0 69 (fun q => absurd q.1 (by decide))
                          have t182 := p177 0 6 (fun q => absurd q.1 (by decide))
                          have t183 := p177 0 59 (fun q => absurd q.1 (by decide))
                          have t184 := p177 0 42 (fun q => absurd q.1 (by decide))
                          have f185 := (show 0 ≤ I176 0 71 ∧ I176 0 71 ≤ 5 from (hI176 0 71).1)
                          have f186 := (show 0 ≤ I176 0 72 ∧ I176 0 72 ≤ 1000 from (hI176 0 72).1)
                          have f187 := (show 0 ≤ I176 0 73 ∧ I176 0 73 ≤ 1001 from (hI176 0 73).1)
                          have f188 := (show 0 ≤ I176 0 69 ∧ I176 0 69 ≤ 1000 from (hI176 0 69).1)
                          have f189 := (show (-1) ≤ I176 0 6 ∧ I176 0 6 ≤ 7 from (hI176 0 6).1)
                          have f190 := (show 0 ≤ I176 0 59 ∧ I176 0 59 ≤ 2000 from (hI176 0 59).1)
                          have f191 := (show 0 ≤ I176 0 42 ∧ I176 0 42 ≤ 2000 from (hI176 0 42).1)
                          refine gv_run 6 true hD (pc' := 450) (lv' := [(5, .inl ((24 * v1_10) + (I160 17 (Int.toNat v1_10)))), (0, .inr (.inr (some 0))), (1, .inl v1_10), (2, .inr (.inl v2_10)), (4, .inl v4_56)]) (st' := [.inr (.inl v2_10), .inl ((24 * v1_10) + (I160 17 (Int.toNat v1_10))), .inr (.inr (some 23))]) (h' := gr_h I176 J161) (C := ((((((True ∧ True) ∧ True) ∧ True) ∧ True) ∧ True) ∧ True)) rfl ⟨⟨⟨⟨⟨⟨trivial, trivial⟩, trivial⟩, trivial⟩, trivial⟩, trivial⟩, trivial⟩ ?_
                          refine gv_run 1 true hD (pc' := 451) (lv' := [(5, .inl ((24 * v1_10) + (I160 17 (Int.toNat v1_10)))), (0, .inr (.inr (some 0))), (1, .inl v1_10), (2, .inr (.inl v2_10)), (4, .inl v4_56)]) (st' := []) (h' := gz_up (gr_h I176 J161) 23 (Int.toNat (((24 * v1_10) + (I160 17 (Int.toNat v1_10))))) (.inr (.inl v2_10))) (C := (True ∧ (0 ≤ (((24 * v1_10) + (I160 17 (Int.toNat v1_10)))) ∧ (((24 * v1_10) + (I160 17 (Int.toNat v1_10)))) < ((192 : Nat) : Int)))) rfl ⟨trivial, ⟨by omega, by omega⟩⟩ ?_
                          refine gr_stJ FJ161 rfl rfl (fun J192 FJ192 => ?_)
                          refine gv_run 4 true hD (pc' := 459) (lv' := [(5, .inl ((24 * v1_10) + (I160 17 (Int.toNat v1_10)))), (0, .inr (.inr (some 0))), (1, .inl v1_10), (2, .inr (.inl v2_10)), (4, .inl v4_56)]) (st' := [.inl v4_56, .inl ((24 * v1_10) + (I160 17 (Int.toNat v1_10))), .inr (.inr (some 31))]) (h' := gr_h I176 J192) (C := ((((True ∧ True) ∧ True) ∧ True) ∧ True)) rfl ⟨⟨⟨⟨trivial, trivial⟩, trivial⟩, trivial⟩, trivial⟩ ?_
                          refine gv_run 1 true hD (pc' := 460) (lv' := [(5, .inl ((24 * v1_10) + (I160 17 (Int.toNat v1_10)))), (0, .inr (.inr (some 0))), (1, .inl v1_10), (2, .inr (.inl v2_10)), (4, .inl v4_56)]) (st' := []) (h' := gz_up (gr_h I176 J192) 31 (Int.toNat (((24 * v1_10) + (I160 17 (Int.toNat v1_10))))) (.inl v4_56)) (C := (True ∧ (0 ≤ (((24 * v1_10) + (I160 17 (Int.toNat v1_10)))) ∧ (((24 * v1_10) + (I160 17 (Int.toNat v1_10)))) < ((192 : Nat) : Int)))) rfl ⟨trivial, ⟨by omega, by omega⟩⟩ ?_
                          refine gr_st hI176 FI176 rfl rfl ⟨⟨by show 0 ≤ _; omega, by show _ ≤ 24; omega⟩, trivial⟩ (fun I193 hI193 FI193 q194 p194 => ?_)
                          have t195 := p194 0 71 (fun q => absurd q.1 (by decide))
                          have t196 := p194 0 72 (fun q => absurd q.1 (by decide))
                          have t197 := p194 0 73 (fun q => absurd q.1 (by decide))
                          have t198 := p194 0 69 (fun q => absurd q.1 (by decide))
                          have t199 := p194 0 6 (fun q => absurd q.1 (by decide))
                          have t200 := p194 0 59 (fun q => absurd q.1 (by decide))
                          have t201 := p194 0 42 (fun q => absurd q.1 (by decide))
                          have t202 := p194 17 (Int.toNat v1_10) (fun q => absurd q.1 (by decide))
                          have t203 := p194 65 (Int.toNat (((24 * v1_10) + (I160 17 (Int.toNat v1_10))))) (fun q => absurd q.1 (by decide))
                          have f204 := (show 0 ≤ I193 0 71 ∧ I193 0 71 ≤ 5 from (hI193 0 71).1)
                          have f205 := (show 0 ≤ I193 0 72 ∧ I193 0 72 ≤ 1000 from (hI193 0 72).1)
                          have f206 := (show 0 ≤ I193 0 73 ∧ I193 0 73 ≤ 1001 from (hI193 0 73).1)
                          have f207 := (show 0 ≤ I193 0 69 ∧ I193 0 69 ≤ 1000 from (hI193 0 69).1)
                          have f208 := (show (-1) ≤ I193 0 6 ∧ I193 0 6 ≤ 7 from (hI193 0 6).1)
                          have f209 := (show 0 ≤ I193 0 59 ∧ I193 0 59 ≤ 2000 from (hI193 0 59).1)
                          have f210 := (show 0 ≤ I193 0 42 ∧ I193 0 42 ≤ 2000 from (hI193 0 42).1)
                          refine gv_run 2 true hD (pc' := 463) (lv' := [(6, .inl 0), (5, .inl ((24 * v1_10) + (I160 17 (Int.toNat v1_10)))), (0, .inr (.inr (some 0))), (1, .inl v1_10), (2, .inr (.inl v2_10)), (4, .inl v4_56)]) (st' := []) (h' := gr_h I193 J192) (C := ((True ∧ True) ∧ True)) rfl ⟨⟨trivial, trivial⟩, trivial⟩ ?_
                          refine gv_pick [2, 5, 1, 0] rfl ?_
                          exact L463 _ I193 J192 (((24 * v1_10) + (I160 17 (Int.toNat v1_10)))) 0 (Nat.lt_succ_self _) hI193 FI193 FJ192 ⟨by omega, by omega⟩ ⟨by omega, by omega⟩ ⟨by omega, by omega⟩ (by omega) (by omega) (by omega) (by omega) (by omega) (by omega) (by omega) (by omega) (by omega) (by omega) (by omega)
                        · refine gv_pick [] rfl ?_
                          exact L423 I160 J161 hI160 FI160 FJ161 (by omega) (by omega) (by omega) (by omega) (by omega) (by omega) (by omega) (by omega) (by omega) (by omega) (by omega)
                      have L416 : ∀ (I211 : gr_I) (J212 : gr_J) , gr_Inv I211 → gr_fr [42, 59, 71, 72, 73, 74, 75, 76, 77, 106] [17, 23, 31, 32, 33, 34, 35, 51, 57, 64, 65, 66] I I211 → gr_fj [42, 59, 71, 72, 73, 74, 75, 76, 77, 106] [17, 23, 31, 32, 33, 34, 35, 51, 57, 64, 65, 66] J J212 → 0 ≤ v1_10 ∧ v1_10 ≤ 7 → 0 ≤ v4_56 ∧ v4_56 ≤ 358 → (I211 0 71 = 5 ∨ I211 0 73 ≤ I211 0 69) → (I211 0 72 ≤ I211 0 69) → (I211 0 71 = 0 ∨ (I211 0 72 < I211 0 73 ∧ I211 0 72 < I211 0 69)) → (I211 0 71 = 3 → 2 ≤ I211 0 73 - I211 0 72 ∧ I211 0 73 - I211 0 72 ≤ 14) → (I211 0 72 ≤ I211 0 73) → (I211 0 69 = I 0 69) → (I 0 73 ≤ I211 0 73) → (I 0 72 ≤ I211 0 72) → (I211 0 6 = I 0 6) → (I211 0 59 - I211 0 72 ≤ I 0 59 - I 0 72) → (I211 0 42 - I211 0 72 ≤ I 0 42 - I 0 72) → gv_X (gr_E ws0 tb 11 (yX13_pattern, cX13_pattern, 8, (some .boolean)) kX13_pattern) (gv_Q cX13_pattern (some .boolean) (gr_sh ++ ext) (fun r h' => (∃ (I' : gr_I) (J' : gr_J), h' = gr_h I' J' ∧ gr_Inv I' ∧ gr_fr [42, 59, 71, 72, 73, 74, 75, 76, 77, 106] [17, 23, 31, 32, 33, 34, 35, 51, 57, 64, 65, 66] I I' ∧ gr_fj [42, 59, 71, 72, 73, 74, 75, 76, 77, 106] [17, 23, 31, 32, 33, 34, 35, 51, 57, 64, 65, 66] J J' ∧ (∃ z : Int, r = some (.inl z) ∧ 0 ≤ z ∧ z ≤ 1 ∧ (I' 0 71 = 5 ∨ I' 0 73 ≤ I' 0 69) ∧ (I' 0 72 ≤ I' 0 69) ∧ (I' 0 71 = 0 ∨ (I' 0 72 < I' 0 73 ∧ I' 0 72 < I' 0 69)) ∧ (I' 0 71 = 3 → 2 ≤ I' 0 73 - I' 0 72 ∧ I' 0 73 - I' 0 72 ≤ 14) ∧ (I' 0 72 ≤ I' 0 73) ∧ (I' 0 69 = I 0 69) ∧ (I 0 73 ≤ I' 0 73) ∧ (I 0 72 ≤ I' 0 72) ∧ (I' 0 59 - I' 0 72 ≤ I 0 59 - I 0 72) ∧ (I' 0 42 - I' 0 72 ≤ I 0 42 - I 0 72))))) (416, [(0, .inr (.inr (some 0))), (1, .inl v1_10), (2, .inr (.inl v2_10)), (4, .inl v4_56)], [.inr (.inr (some 0))], gr_sh ++ ext, gr_h I211 J212) := by
                        intro I211 J212 hI211 FI211 FJ212 hv1_10_213 hv4_56_213 e0_213 e1_213 e2_213 e3_213 e4_213 e5_213 e6_213 e7_213 e8_213 e9_213 e10_213
                        have f214 := (show 0 ≤ I211 0 71 ∧ I211 0 71 ≤ 5 from (hI211 0 71).1)
                        have f215 := (show 0 ≤ I211 0 72 ∧ I211 0 72 ≤ 1000 from (hI211 0 72).1)
                        have f216 := (show 0 ≤ I211 0 73 ∧ I211 0 73 ≤ 1001 from (hI211 0 73).1)
                        have f217 := (show 0 ≤ I211 0 69 ∧ I211 0 69 ≤ 1000 from (hI211 0 69).1)
                        have f218 := (show (-1) ≤ I211 0 6 ∧ I211 0 6 ≤ 7 from (hI211 0 6).1)
                        have f219 := (show 0 ≤ I211 0 59 ∧ I211 0 59 ≤ 2000 from (hI211 0 59).1)
                        have f220 := (show 0 ≤ I211 0 42 ∧ I211 0 42 ≤ 2000 from (hI211 0 42).1)
                        refine gv_run 1 true hD (pc' := 417) (lv' := [(0, .inr (.inr (some 0))), (1, .inl v1_10), (2, .inr (.inl v2_10)), (4, .inl v4_56)]) (st' := [.inl 0, .inr (.inr (some 0))]) (h' := gr_h I211 J212) (C := (True ∧ True)) rfl ⟨trivial, trivial⟩ ?_
                        exact L417 I211 J212 0 hI211 FI211 FJ212 ⟨by omega, by omega⟩ ⟨by omega, by omega⟩ ⟨by omega, by omega⟩ (by omega) (by omega) (by omega) (by omega) (by omega) (by omega) (by omega) (by omega) (by omega) (by omega) (by omega) (by omega)
                      refine gv_run 2 true hD (pc' := 368) (lv' := [(0, .inr (.inr (some 0))), (1, .inl v1_10), (2, .inr (.inl v2_10)), (4, .inl v4_56)]) (st' := [.inl 44, .inr (.inr (some 0))]) (h' := gr_h I64 J65) (C := ((True ∧ True) ∧ True)) rfl ⟨⟨trivial, trivial⟩, trivial⟩ ?_
                      obtain ⟨r221, h221, E221, P221⟩ := r_sign (ws0 := ws0) (tb := tb) hws htb ext I64 J65 hI64 44 ⟨by omega, by omega⟩ (by omega)
                      obtain ⟨rfl, ⟨z221, rfl, q221⟩⟩ := P221
                      refine gv_callV hD rfl (As := [.inl 44]) (st := []) rfl (by decide) rfl rfl (gr_lV hws rfl) (Nat.le_of_ble_eq_true rfl) (gz_Ev_mono (d := 1) (by decide) E221) ?_
                      show gv_X _ _ (371, [(0, .inr (.inr (some 0))), (1, .inl v1_10), (2, .inr (.inl v2_10)), (4, .inl v4_56)], [.inl z221], gr_sh ++ ext, gr_h I64 J65)
                      refine gv_if_ne (t := 377) hD rfl rfl ⟨by omega, by omega⟩ (fun c222 => ?_) (fun c222 => ?_)
                      · refine gv_run 1 true hD (pc' := 378) (lv' := [(0, .inr (.inr (some 0))), (1, .inl v1_10), (2, .inr (.inl v2_10)), (4, .inl v4_56)]) (st' := [.inr (.inr (some 0))]) (h' := gr_h I64 J65) (C := (True ∧ True)) rfl ⟨trivial, trivial⟩ ?_
                        obtain ⟨r223, h223, E223, P223⟩ := r_next (ws0 := ws0) (tb := tb) hws htb ext I64 J65 hI64   (by omega)
                        obtain ⟨I224, J225, rfl, hI224, g223, k223, ⟨rfl, q223⟩⟩ := P223
                        have FI224 := gr_frt FI64 g223 rfl rfl
                        have FJ225 := gr_fjt FJ65 k223 rfl rfl
                        have t226 := g223 0 69 rfl
                        have t227 := g223 0 6 rfl
                        have t228 := g223 0 59 rfl
                        have t229 := g223 0 42 rfl
                        have t230 := g223 17 (Int.toNat v1_10) rfl
                        have f231 := (show 0 ≤ I224 0 71 ∧ I224 0 71 ≤ 5 from (hI224 0 71).1)
                        have f232 := (show 0 ≤ I224 0 72 ∧ I224 0 72 ≤ 1000 from (hI224 0 72).1)
                        have f233 := (show 0 ≤ I224 0 73 ∧ I224 0 73 ≤ 1001 from (hI224 0 73).1)
                        have f234 := (show 0 ≤ I224 0 69 ∧ I224 0 69 ≤ 1000 from (hI224 0 69).1)
                        have f235 := (show (-1) ≤ I224 0 6 ∧ I224 0 6 ≤ 7 from (hI224 0 6).1)
                        have f236 := (show 0 ≤ I224 0 59 ∧ I224 0 59 ≤ 2000 from (hI224 0 59).1)
                        have f237 := (show 0 ≤ I224 0 42 ∧ I224 0 42 ≤ 2000 from (hI224 0 42).1)
                        refine gv_callV hD rfl (As := []) (st := []) rfl (by decide) rfl rfl (gr_lV hws rfl) (Nat.le_of_ble_eq_true rfl) (gz_Ev_mono (d := 10) (by decide) E223) ?_
                        show gv_X _ _ (381, [(0, .inr (.inr (some 0))), (1, .inl v1_10), (2, .inr (.inl v2_10)), (4, .inl v4_56)], [], gr_sh ++ ext, gr_h I224 J225)
                        refine gv_run 1 true hD (pc' := 218) (lv' := [(0, .inr (.inr (some 0))), (1, .inl v1_10), (2, .inr (.inl v2_10)), (4, .inl v4_56)]) (st' := []) (h' := gr_h I224 J225) (C := (True ∧ True)) rfl ⟨trivial, trivial⟩ ?_
                        exact ih218 I224 J225 v4_56 (by omega) hI224 FI224 FJ225 ⟨by omega, by omega⟩ ⟨by omega, by omega⟩ (by omega) (by omega) (by omega) (by omega) (by omega) (by omega) (by omega) (by omega) (by omega) (by omega) (by omega) (by omega)
                      · refine gv_run 3 true hD (pc' := 387) (lv' := [(0, .inr (.inr (some 0))), (1, .inl v1_10), (2, .inr (.inl v2_10)), (4, .inl v4_56)]) (st' := [.inl 125, .inr (.inr (some 0))]) (h' := gr_h I64 J65) (C := (((True ∧ True) ∧ True) ∧ True)) rfl ⟨⟨⟨trivial, trivial⟩, trivial⟩, trivial⟩ ?_
                        obtain ⟨r238, h238, E238, P238⟩ := r_need (ws0 := ws0) (tb := tb) hws htb ext I64 J65 hI64 125 ⟨by omega, by omega⟩ (by omega) (by omega) (by omega) (by omega) (by omega)
                        obtain ⟨I239, J240, rfl, hI239, g238, k238, ⟨z238, rfl, q238⟩⟩ := P238
                        have FI239 := gr_frt FI64 g238 rfl rfl
                        have FJ240 := gr_fjt FJ65 k238 rfl rfl
                        have t241 := g238 0 69 rfl
                        have t242 := g238 0 6 rfl
                        have t243 := g238 0 59 rfl
                        have t244 := g238 0 42 rfl
                        have t245 := g238 17 (Int.toNat v1_10) rfl
                        have f246 := (show 0 ≤ I239 0 71 ∧ I239 0 71 ≤ 5 from (hI239 0 71).1)
                        have f247 := (show 0 ≤ I239 0 72 ∧ I239 0 72 ≤ 1000 from (hI239 0 72).1)
                        have f248 := (show 0 ≤ I239 0 73 ∧ I239 0 73 ≤ 1001 from (hI239 0 73).1)
                        have f249 := (show 0 ≤ I239 0 69 ∧ I239 0 69 ≤ 1000 from (hI239 0 69).1)
                        have f250 := (show (-1) ≤ I239 0 6 ∧ I239 0 6 ≤ 7 from (hI239 0 6).1)
                        have f251 := (show 0 ≤ I239 0 59 ∧ I239 0 59 ≤ 2000 from (hI239 0 59).1)
                        have f252 := (show 0 ≤ I239 0 42 ∧ I239 0 42 ≤ 2000 from (hI239 0 42).1)
                        refine gv_callV hD rfl (As := [.inl 125]) (st := []) rfl (by decide) rfl rfl (gr_lV hws rfl) (Nat.le_of_ble_eq_true rfl) (gz_Ev_mono (d := 11) (by decide) E238) ?_
                        show gv_X _ _ (390, [(0, .inr (.inr (some 0))), (1, .inl v1_10), (2, .inr (.inl v2_10)), (4, .inl v4_56)], [.inl z238], gr_sh ++ ext, gr_h I239 J240)
                        refine gv_if_eq (t := 423) hD rfl rfl ⟨by omega, by omega⟩ (fun c253 => ?_) (fun c253 => ?_)
                        · refine gv_pick [] rfl ?_
                          exact L423 I239 J240 hI239 FI239 FJ240 (by omega) (by omega) (by omega) (by omega) (by omega) (by omega) (by omega) (by omega) (by omega) (by omega) (by omega)
                        · refine gv_run 3 true hD (pc' := 398) (lv' := [(0, .inr (.inr (some 0))), (1, .inl v1_10), (2, .inr (.inl v2_10)), (4, .inl v4_56)]) (st' := [.inl 24, .inl v4_56, .inr (.inr (some 0))]) (h' := gr_h I239 J240) (C := (((True ∧ True) ∧ True) ∧ True)) rfl ⟨⟨⟨trivial, trivial⟩, trivial⟩, trivial⟩ ?_
                          refine gv_icmp_gt (t := 416) hD rfl rfl ⟨⟨by omega, by omega⟩, ⟨by omega, by omega⟩⟩ (fun c254 => ?_) (fun c254 => ?_)
                          · exact L416 I239 J240 hI239 FI239 FJ240 ⟨by omega, by omega⟩ ⟨by omega, by omega⟩ (by omega) (by omega) (by omega) (by omega) (by omega) (by omega) (by omega) (by omega) (by omega) (by omega) (by omega)
                          · have f255 := (show 0 ≤ I239 17 (Int.toNat v1_10) ∧ I239 17 (Int.toNat v1_10) ≤ 24 from (hI239 17 (Int.toNat v1_10)).1)
                            refine gv_run 4 true hD (pc' := 407) (lv' := [(0, .inr (.inr (some 0))), (1, .inl v1_10), (2, .inr (.inl v2_10)), (4, .inl v4_56)]) (st' := [.inl (I239 17 (Int.toNat v1_10)), .inr (.inr (some 0))]) (h' := gr_h I239 J240) (C := ((((True ∧ True) ∧ True) ∧ True) ∧ (0 ≤ v1_10 ∧ v1_10 < ((8 : Nat) : Int)))) rfl ⟨⟨⟨⟨trivial, trivial⟩, trivial⟩, trivial⟩, ⟨by omega, by omega⟩⟩ ?_
                            refine gv_run 1 true hD (pc' := 409) (lv' := [(0, .inr (.inr (some 0))), (1, .inl v1_10), (2, .inr (.inl v2_10)), (4, .inl v4_56)]) (st' := [.inl 24, .inl (I239 17 (Int.toNat v1_10)), .inr (.inr (some 0))]) (h' := gr_h I239 J240) (C := (True ∧ True)) rfl ⟨trivial, trivial⟩ ?_
                            refine gv_icmp_ge (t := 416) hD rfl rfl ⟨⟨by omega, by omega⟩, ⟨by omega, by omega⟩⟩ (fun c256 => ?_) (fun c256 => ?_)
                            · exact L416 I239 J240 hI239 FI239 FJ240 ⟨by omega, by omega⟩ ⟨by omega, by omega⟩ (by omega) (by omega) (by omega) (by omega) (by omega) (by omega) (by omega) (by omega) (by omega) (by omega) (by omega)
                            · refine gv_run 2 true hD (pc' := 417) (lv' := [(0, .inr (.inr (some 0))), (1, .inl v1_10), (2, .inr (.inl v2_10)), (4, .inl v4_56)]) (st' := [.inl 1, .inr (.inr (some 0))]) (h' := gr_h I239 J240) (C := ((True ∧ True) ∧ True)) rfl ⟨⟨trivial, trivial⟩, trivial⟩ ?_
                              exact L417 I239 J240 1 hI239 FI239 FJ240 ⟨by omega, by omega⟩ ⟨by omega, by omega⟩ ⟨by omega, by omega⟩ (by omega) (by omega) (by omega) (by omega) (by omega) (by omega) (by omega) (by omega) (by omega) (by omega) (by omega) (by omega)
                    have f257 := (show 0 ≤ I38 0 106 ∧ I38 0 106 ≤ 16777215 from (hI38 0 106).1)
                    refine gv_run 5 true hD (pc' := 301) (lv' := [(0, .inr (.inr (some 0))), (1, .inl v1_10), (2, .inr (.inl v2_10)), (4, .inl v4_56), (5, .inl v5_40)]) (st' := [.inl (I38 0 106), .inl v5_40, .inr (.inr (some 64))]) (h' := gr_h I38 J39) (C := (((((True ∧ True) ∧ True) ∧ True) ∧ True) ∧ True)) rfl ⟨⟨⟨⟨⟨trivial, trivial⟩, trivial⟩, trivial⟩, trivial⟩, trivial⟩ ?_
                    refine gv_run 1 true hD (pc' := 302) (lv' := [(0, .inr (.inr (some 0))), (1, .inl v1_10), (2, .inr (.inl v2_10)), (4, .inl v4_56), (5, .inl v5_40)]) (st' := []) (h' := gz_up (gr_h I38 J39) 64 (Int.toNat v5_40) (.inl (I38 0 106))) (C := (True ∧ (0 ≤ v5_40 ∧ v5_40 < ((420 : Nat) : Int)))) rfl ⟨trivial, ⟨by omega, by omega⟩⟩ ?_
                    refine gr_st hI38 FI38 rfl rfl ⟨⟨by show 0 ≤ _; omega, by show _ ≤ 16777215; omega⟩, trivial⟩ (fun I258 hI258 FI258 q259 p259 => ?_)
                    have t260 := p259 0 71 (fun q => absurd q.1 (by decide))
                    have t261 := p259 0 72 (fun q => absurd q.1 (by decide))
                    have t262 := p259 0 73 (fun q => absurd q.1 (by decide))
                    have t263 := p259 0 69 (fun q => absurd q.1 (by decide))
                    have t264 := p259 0 6 (fun q => absurd q.1 (by decide))
                    have t265 := p259 0 59 (fun q => absurd q.1 (by decide))
                    have t266 := p259 0 42 (fun q => absurd q.1 (by decide))
                    have t267 := p259 17 (Int.toNat v1_10) (fun q => absurd q.1 (by decide))
                    have t268 := p259 65 (Int.toNat v5_40) (fun q => absurd q.1 (by decide))
                    have f269 := (show 0 ≤ I258 0 71 ∧ I258 0 71 ≤ 5 from (hI258 0 71).1)
                    have f270 := (show 0 ≤ I258 0 72 ∧ I258 0 72 ≤ 1000 from (hI258 0 72).1)
                    have f271 := (show 0 ≤ I258 0 73 ∧ I258 0 73 ≤ 1001 from (hI258 0 73).1)
                    have f272 := (show 0 ≤ I258 0 69 ∧ I258 0 69 ≤ 1000 from (hI258 0 69).1)
                    have f273 := (show (-1) ≤ I258 0 6 ∧ I258 0 6 ≤ 7 from (hI258 0 6).1)
                    have f274 := (show 0 ≤ I258 0 59 ∧ I258 0 59 ≤ 2000 from (hI258 0 59).1)
                    have f275 := (show 0 ≤ I258 0 42 ∧ I258 0 42 ≤ 2000 from (hI258 0 42).1)
                    have f276 := (show 0 ≤ I258 0 42 ∧ I258 0 42 ≤ 2000 from (hI258 0 42).1)
                    refine gv_run 5 true hD (pc' := 312) (lv' := [(0, .inr (.inr (some 0))), (1, .inl v1_10), (2, .inr (.inl v2_10)), (4, .inl v4_56), (5, .inl v5_40)]) (st' := [.inl (I258 0 42), .inl v5_40, .inr (.inr (some 65))]) (h' := gr_h I258 J39) (C := (((((True ∧ True) ∧ True) ∧ True) ∧ True) ∧ True)) rfl ⟨⟨⟨⟨⟨trivial, trivial⟩, trivial⟩, trivial⟩, trivial⟩, trivial⟩ ?_
                    refine gv_run 1 true hD (pc' := 313) (lv' := [(0, .inr (.inr (some 0))), (1, .inl v1_10), (2, .inr (.inl v2_10)), (4, .inl v4_56), (5, .inl v5_40)]) (st' := []) (h' := gz_up (gr_h I258 J39) 65 (Int.toNat v5_40) (.inl (I258 0 42))) (C := (True ∧ (0 ≤ v5_40 ∧ v5_40 < ((420 : Nat) : Int)))) rfl ⟨trivial, ⟨by omega, by omega⟩⟩ ?_
                    refine gr_st hI258 FI258 rfl rfl ⟨⟨by show 0 ≤ _; omega, by show _ ≤ 2000; omega⟩, trivial⟩ (fun I277 hI277 FI277 q278 p278 => ?_)
                    have t279 := p278 0 71 (fun q => absurd q.1 (by decide))
                    have t280 := p278 0 72 (fun q => absurd q.1 (by decide))
                    have t281 := p278 0 73 (fun q => absurd q.1 (by decide))
                    have t282 := p278 0 69 (fun q => absurd q.1 (by decide))
                    have t283 := p278 0 6 (fun q => absurd q.1 (by decide))
                    have t284 := p278 0 59 (fun q => absurd q.1 (by decide))
                    have t285 := p278 0 42 (fun q => absurd q.1 (by decide))
                    have t286 := p278 17 (Int.toNat v1_10) (fun q => absurd q.1 (by decide))
                    have f287 := (show 0 ≤ I277 0 71 ∧ I277 0 71 ≤ 5 from (hI277 0 71).1)
                    have f288 := (show 0 ≤ I277 0 72 ∧ I277 0 72 ≤ 1000 from (hI277 0 72).1)
                    have f289 := (show 0 ≤ I277 0 73 ∧ I277 0 73 ≤ 1001 from (hI277 0 73).1)
                    have f290 := (show 0 ≤ I277 0 69 ∧ I277 0 69 ≤ 1000 from (hI277 0 69).1)
                    have f291 := (show (-1) ≤ I277 0 6 ∧ I277 0 6 ≤ 7 from (hI277 0 6).1)
                    have f292 := (show 0 ≤ I277 0 59 ∧ I277 0 59 ≤ 2000 from (hI277 0 59).1)
                    have f293 := (show 0 ≤ I277 0 42 ∧ I277 0 42 ≤ 2000 from (hI277 0 42).1)
                    refine gv_run 2 true hD (pc' := 316) (lv' := [(0, .inr (.inr (some 0))), (1, .inl v1_10), (2, .inr (.inl v2_10)), (4, .inl v4_56), (5, .inl v5_40)]) (st' := [.inl 45, .inr (.inr (some 0))]) (h' := gr_h I277 J39) (C := ((True ∧ True) ∧ True)) rfl ⟨⟨trivial, trivial⟩, trivial⟩ ?_
                    obtain ⟨r294, h294, E294, P294⟩ := r_sign (ws0 := ws0) (tb := tb) hws htb ext I277 J39 hI277 45 ⟨by omega, by omega⟩ (by omega)
                    obtain ⟨rfl, ⟨z294, rfl, q294⟩⟩ := P294
                    refine gv_callV hD rfl (As := [.inl 45]) (st := []) rfl (by decide) rfl rfl (gr_lV hws rfl) (Nat.le_of_ble_eq_true rfl) (gz_Ev_mono (d := 1) (by decide) E294) ?_
                    show gv_X _ _ (319, [(0, .inr (.inr (some 0))), (1, .inl v1_10), (2, .inr (.inl v2_10)), (4, .inl v4_56), (5, .inl v5_40)], [.inl z294], gr_sh ++ ext, gr_h I277 J39)
                    refine gv_if_eq (t := 337) hD rfl rfl ⟨by omega, by omega⟩ (fun c295 => ?_) (fun c295 => ?_)
                    · refine gv_run 1 true hD (pc' := 338) (lv' := [(0, .inr (.inr (some 0))), (1, .inl v1_10), (2, .inr (.inl v2_10)), (4, .inl v4_56), (5, .inl v5_40)]) (st' := [.inr (.inr (some 0))]) (h' := gr_h I277 J39) (C := (True ∧ True)) rfl ⟨trivial, trivial⟩ ?_
                      obtain ⟨r296, h296, E296, P296⟩ := r_form (ws0 := ws0) (tb := tb) hws htb ext I277 J39 hI277   (by omega) (by omega) (by omega) (by omega) (by omega) (by omega) (by omega)
                      obtain ⟨I297, J298, rfl, hI297, g296, k296, ⟨z296, rfl, q296⟩⟩ := P296
                      have FI297 := gr_frt FI277 g296 rfl rfl
                      have FJ298 := gr_fjt FJ39 k296 rfl rfl
                      have t299 := g296 0 69 rfl
                      have t300 := g296 0 6 rfl
                      have t301 := g296 17 (Int.toNat v1_10) rfl
                      have t302 := g296 65 (Int.toNat v5_40) rfl
                      have f303 := (show 0 ≤ I297 0 71 ∧ I297 0 71 ≤ 5 from (hI297 0 71).1)
                      have f304 := (show 0 ≤ I297 0 72 ∧ I297 0 72 ≤ 1000 from (hI297 0 72).1)
                      have f305 := (show 0 ≤ I297 0 73 ∧ I297 0 73 ≤ 1001 from (hI297 0 73).1)
                      have f306 := (show 0 ≤ I297 0 69 ∧ I297 0 69 ≤ 1000 from (hI297 0 69).1)
                      have f307 := (show (-1) ≤ I297 0 6 ∧ I297 0 6 ≤ 7 from (hI297 0 6).1)
                      have f308 := (show 0 ≤ I297 0 59 ∧ I297 0 59 ≤ 2000 from (hI297 0 59).1)
                      have f309 := (show 0 ≤ I297 0 42 ∧ I297 0 42 ≤ 2000 from (hI297 0 42).1)
                      refine gv_callV hD rfl (As := []) (st := []) rfl (by decide) rfl rfl (gr_lV hws rfl) (Nat.le_of_ble_eq_true rfl) (gz_Ev_mono (d := 11) (by decide) E296) ?_
                      show gv_X _ _ (341, [(0, .inr (.inr (some 0))), (1, .inl v1_10), (2, .inr (.inl v2_10)), (4, .inl v4_56), (5, .inl v5_40)], [.inl z296], gr_sh ++ ext, gr_h I297 J298)
                      refine gv_if_ne (t := 346) hD rfl rfl ⟨by omega, by omega⟩ (fun c310 => ?_) (fun c310 => ?_)
                      · have f311 := (show 0 ≤ I297 0 42 ∧ I297 0 42 ≤ 2000 from (hI297 0 42).1)
                        refine gv_run 7 true hD (pc' := 360) (lv' := [(0, .inr (.inr (some 0))), (1, .inl v1_10), (2, .inr (.inl v2_10)), (4, .inl v4_56), (5, .inl v5_40)]) (st' := [.inr (.inr (some 65)), .inl (I297 0 42), .inl v5_40, .inr (.inr (some 66))]) (h' := gr_h I297 J298) (C := (((((((True ∧ True) ∧ True) ∧ True) ∧ True) ∧ True) ∧ True) ∧ True)) rfl ⟨⟨⟨⟨⟨⟨⟨trivial, trivial⟩, trivial⟩, trivial⟩, trivial⟩, trivial⟩, trivial⟩, trivial⟩ ?_
                        have f312 := (show 0 ≤ I297 65 (Int.toNat v5_40) ∧ I297 65 (Int.toNat v5_40) ≤ 2000 from (hI297 65 (Int.toNat v5_40)).1)
                        refine gv_run 2 true hD (pc' := 363) (lv' := [(0, .inr (.inr (some 0))), (1, .inl v1_10), (2, .inr (.inl v2_10)), (4, .inl v4_56), (5, .inl v5_40)]) (st' := [.inl (I297 65 (Int.toNat v5_40)), .inl (I297 0 42), .inl v5_40, .inr (.inr (some 66))]) (h' := gr_h I297 J298) (C := ((True ∧ True) ∧ (0 ≤ v5_40 ∧ v5_40 < ((420 : Nat) : Int)))) rfl ⟨⟨trivial, trivial⟩, ⟨by omega, by omega⟩⟩ ?_
                        refine gv_run 2 true hD (pc' := 365) (lv' := [(0, .inr (.inr (some 0))), (1, .inl v1_10), (2, .inr (.inl v2_10)), (4, .inl v4_56), (5, .inl v5_40)]) (st' := []) (h' := gz_up (gr_h I297 J298) 66 (Int.toNat v5_40) (.inl (((I297 0 42) - (I297 65 (Int.toNat v5_40)))))) (C := ((True ∧ True) ∧ (0 ≤ v5_40 ∧ v5_40 < ((420 : Nat) : Int)))) rfl ⟨⟨trivial, trivial⟩, ⟨by omega, by omega⟩⟩ ?_
                        refine gr_st hI297 FI297 rfl rfl ⟨⟨by show (-1) ≤ _; omega, by show _ ≤ 2000; omega⟩, trivial⟩ (fun I313 hI313 FI313 q314 p314 => ?_)
                        have t315 := p314 0 71 (fun q => absurd q.1 (by decide))
                        have t316 := p314 0 72 (fun q => absurd q.1 (by decide))
                        have t317 := p314 0 73 (fun q => absurd q.1 (by decide))
                        have t318 := p314 0 69 (fun q => absurd q.1 (by decide))
                        have t319 := p314 0 6 (fun q => absurd q.1 (by decide))
                        have t320 := p314 0 59 (fun q => absurd q.1 (by decide))
                        have t321 := p314 0 42 (fun q => absurd q.1 (by decide))
                        have t322 := p314 17 (Int.toNat v1_10) (fun q => absurd q.1 (by decide))
                        have t323 := p314 65 (Int.toNat v5_40) (fun q => absurd q.1 (by decide))
                        have f324 := (show 0 ≤ I313 0 71 ∧ I313 0 71 ≤ 5 from (hI313 0 71).1)
                        have f325 := (show 0 ≤ I313 0 72 ∧ I313 0 72 ≤ 1000 from (hI313 0 72).1)
                        have f326 := (show 0 ≤ I313 0 73 ∧ I313 0 73 ≤ 1001 from (hI313 0 73).1)
                        have f327 := (show 0 ≤ I313 0 69 ∧ I313 0 69 ≤ 1000 from (hI313 0 69).1)
                        have f328 := (show (-1) ≤ I313 0 6 ∧ I313 0 6 ≤ 7 from (hI313 0 6).1)
                        have f329 := (show 0 ≤ I313 0 59 ∧ I313 0 59 ≤ 2000 from (hI313 0 59).1)
                        have f330 := (show 0 ≤ I313 0 42 ∧ I313 0 42 ≤ 2000 from (hI313 0 42).1)
                        refine gv_pick [0, 1, 2, 3] rfl ?_
                        exact L365 I313 J298 hI313 FI313 FJ298 ⟨by omega, by omega⟩ ⟨by omega, by omega⟩ (by omega) (by omega) (by omega) (by omega) (by omega) (by omega) (by omega) (by omega) (by omega) (by omega) (by omega) (by omega)
                      · refine gv_run 1 true hD (pc' := 345) (lv' := [(0, .inr (.inr (some 0))), (1, .inl v1_10), (2, .inr (.inl v2_10)), (4, .inl v4_56), (5, .inl v5_40)]) (st' := [.inl 0]) (h' := gr_h I297 J298) (C := (True ∧ True)) rfl ⟨trivial, trivial⟩ ?_
                        exact gv_zret hD rfl (by omega) ⟨I297, J298, rfl, hI297, FI297, FJ298, ⟨_, rfl, by omega, by omega, by omega, by omega, by omega, by omega, by omega, by omega, by omega, by omega, by omega, by omega⟩⟩
                    · refine gv_run 4 true hD (pc' := 329) (lv' := [(0, .inr (.inr (some 0))), (1, .inl v1_10), (2, .inr (.inl v2_10)), (4, .inl v4_56), (5, .inl v5_40)]) (st' := [.inl (-1), .inl v5_40, .inr (.inr (some 66))]) (h' := gr_h I277 J39) (C := ((((True ∧ True) ∧ True) ∧ True) ∧ True)) rfl ⟨⟨⟨⟨trivial, trivial⟩, trivial⟩, trivial⟩, trivial⟩ ?_
                      refine gv_run 1 true hD (pc' := 330) (lv' := [(0, .inr (.inr (some 0))), (1, .inl v1_10), (2, .inr (.inl v2_10)), (4, .inl v4_56), (5, .inl v5_40)]) (st' := []) (h' := gz_up (gr_h I277 J39) 66 (Int.toNat v5_40) (.inl (-1))) (C := (True ∧ (0 ≤ v5_40 ∧ v5_40 < ((420 : Nat) : Int)))) rfl ⟨trivial, ⟨by omega, by omega⟩⟩ ?_
                      refine gr_st hI277 FI277 rfl rfl ⟨⟨by show (-1) ≤ _; omega, by show _ ≤ 2000; omega⟩, trivial⟩ (fun I331 hI331 FI331 q332 p332 => ?_)
                      have t333 := p332 0 71 (fun q => absurd q.1 (by decide))
                      have t334 := p332 0 72 (fun q => absurd q.1 (by decide))
                      have t335 := p332 0 73 (fun q => absurd q.1 (by decide))
                      have t336 := p332 0 69 (fun q => absurd q.1 (by decide))
                      have t337 := p332 0 6 (fun q => absurd q.1 (by decide))
                      have t338 := p332 0 59 (fun q => absurd q.1 (by decide))
                      have t339 := p332 0 42 (fun q => absurd q.1 (by decide))
                      have t340 := p332 17 (Int.toNat v1_10) (fun q => absurd q.1 (by decide))
                      have t341 := p332 65 (Int.toNat v5_40) (fun q => absurd q.1 (by decide))
                      have f342 := (show 0 ≤ I331 0 71 ∧ I331 0 71 ≤ 5 from (hI331 0 71).1)
                      have f343 := (show 0 ≤ I331 0 72 ∧ I331 0 72 ≤ 1000 from (hI331 0 72).1)
                      have f344 := (show 0 ≤ I331 0 73 ∧ I331 0 73 ≤ 1001 from (hI331 0 73).1)
                      have f345 := (show 0 ≤ I331 0 69 ∧ I331 0 69 ≤ 1000 from (hI331 0 69).1)
                      have f346 := (show (-1) ≤ I331 0 6 ∧ I331 0 6 ≤ 7 from (hI331 0 6).1)
                      have f347 := (show 0 ≤ I331 0 59 ∧ I331 0 59 ≤ 2000 from (hI331 0 59).1)
                      have f348 := (show 0 ≤ I331 0 42 ∧ I331 0 42 ≤ 2000 from (hI331 0 42).1)
                      refine gv_run 1 true hD (pc' := 331) (lv' := [(0, .inr (.inr (some 0))), (1, .inl v1_10), (2, .inr (.inl v2_10)), (4, .inl v4_56), (5, .inl v5_40)]) (st' := [.inr (.inr (some 0))]) (h' := gr_h I331 J39) (C := (True ∧ True)) rfl ⟨trivial, trivial⟩ ?_
                      obtain ⟨r349, h349, E349, P349⟩ := r_next (ws0 := ws0) (tb := tb) hws htb ext I331 J39 hI331   (by omega)
                      obtain ⟨I350, J351, rfl, hI350, g349, k349, ⟨rfl, q349⟩⟩ := P349
                      have FI350 := gr_frt FI331 g349 rfl rfl
                      have FJ351 := gr_fjt FJ39 k349 rfl rfl
                      have t352 := g349 0 69 rfl
                      have t353 := g349 0 6 rfl
                      have t354 := g349 0 59 rfl
                      have t355 := g349 0 42 rfl
                      have t356 := g349 17 (Int.toNat v1_10) rfl
                      have t357 := g349 65 (Int.toNat v5_40) rfl
                      have f358 := (show 0 ≤ I350 0 71 ∧ I350 0 71 ≤ 5 from (hI350 0 71).1)
                      have f359 := (show 0 ≤ I350 0 72 ∧ I350 0 72 ≤ 1000 from (hI350 0 72).1)
                      have f360 := (show 0 ≤ I350 0 73 ∧ I350 0 73 ≤ 1001 from (hI350 0 73).1)
                      have f361 := (show 0 ≤ I350 0 69 ∧ I350 0 69 ≤ 1000 from (hI350 0 69).1)
                      have f362 := (show (-1) ≤ I350 0 6 ∧ I350 0 6 ≤ 7 from (hI350 0 6).1)
                      have f363 := (show 0 ≤ I350 0 59 ∧ I350 0 59 ≤ 2000 from (hI350 0 59).1)
                      have f364 := (show 0 ≤ I350 0 42 ∧ I350 0 42 ≤ 2000 from (hI350 0 42).1)
                      refine gv_callV hD rfl (As := []) (st := []) rfl (by decide) rfl rfl (gr_lV hws rfl) (Nat.le_of_ble_eq_true rfl) (gz_Ev_mono (d := 10) (by decide) E349) ?_
                      show gv_X _ _ (334, [(0, .inr (.inr (some 0))), (1, .inl v1_10), (2, .inr (.inl v2_10)), (4, .inl v4_56), (5, .inl v5_40)], [], gr_sh ++ ext, gr_h I350 J351)
                      refine gv_run 1 true hD (pc' := 365) (lv' := [(0, .inr (.inr (some 0))), (1, .inl v1_10), (2, .inr (.inl v2_10)), (4, .inl v4_56), (5, .inl v5_40)]) (st' := []) (h' := gr_h I350 J351) (C := (True ∧ True)) rfl ⟨trivial, trivial⟩ ?_
                      refine gv_pick [0, 1, 2, 3] rfl ?_
                      exact L365 I350 J351 hI350 FI350 FJ351 ⟨by omega, by omega⟩ ⟨by omega, by omega⟩ (by omega) (by omega) (by omega) (by omega) (by omega) (by omega) (by omega) (by omega) (by omega) (by omega) (by omega) (by omega)
                  refine gv_run 2 true hD (pc' := 285) (lv' := [(0, .inr (.inr (some 0))), (1, .inl v1_10), (2, .inr (.inl v2_10)), (4, .inl v4_20), (5, .inl v5_40)]) (st' := [.inl v4_20, .inl v5_40]) (h' := gr_h I38 J39) (C := ((True ∧ True) ∧ True)) rfl ⟨⟨trivial, trivial⟩, trivial⟩ ?_
                  refine gv_icmp_ne (t := 291) hD rfl rfl ⟨⟨by omega, by omega⟩, ⟨by omega, by omega⟩⟩ (fun c365 => ?_) (fun c365 => ?_)
                  · exact L291 v4_20 ⟨by omega, by omega⟩ ⟨by omega, by omega⟩ ⟨by omega, by omega⟩ (by omega) (by omega) (by omega) (by omega) (by omega) (by omega) (by omega) (by omega) (by omega) (by omega) (by omega) (by omega) (by omega)
                  · refine gv_run 1 true hD (pc' := 291) (lv' := [(4, .inl (v4_20 + 1)), (0, .inr (.inr (some 0))), (1, .inl v1_10), (2, .inr (.inl v2_10)), (5, .inl v5_40)]) (st' := []) (h' := gr_h I38 J39) (C := (True ∧ True)) rfl ⟨trivial, trivial⟩ ?_
                    refine gv_pick [1, 2, 3, 0, 4] rfl ?_
                    exact L291 (v4_20 + 1) ⟨by omega, by omega⟩ ⟨by omega, by omega⟩ ⟨by omega, by omega⟩ (by omega) (by omega) (by omega) (by omega) (by omega) (by omega) (by omega) (by omega) (by omega) (by omega) (by omega) (by omega) (by omega)
                refine gv_run 2 true hD (pc' := 258) (lv' := [(0, .inr (.inr (some 0))), (1, .inl v1_10), (2, .inr (.inl v2_10)), (4, .inl v4_20), (5, .inl v5_40)]) (st' := [.inl v4_20, .inl v5_40]) (h' := gr_h I38 J39) (C := ((True ∧ True) ∧ True)) rfl ⟨⟨trivial, trivial⟩, trivial⟩ ?_
                refine gv_icmp_ge (t := 281) hD rfl rfl ⟨⟨by omega, by omega⟩, ⟨by omega, by omega⟩⟩ (fun c366 => ?_) (fun c366 => ?_)
                · exact L281 ⟨by omega, by omega⟩ ⟨by omega, by omega⟩ ⟨by omega, by omega⟩ (by omega) (by omega) (by omega) (by omega) (by omega) (by omega) (by omega) (by omega) (by omega) (by omega) (by omega) (by omega) (by omega)
                · have f367 := (show 0 ≤ I38 64 (Int.toNat v5_40) ∧ I38 64 (Int.toNat v5_40) ≤ 16777215 from (hI38 64 (Int.toNat v5_40)).1)
                  refine gv_run 4 true hD (pc' := 268) (lv' := [(0, .inr (.inr (some 0))), (1, .inl v1_10), (2, .inr (.inl v2_10)), (4, .inl v4_20), (5, .inl v5_40)]) (st' := [.inl (I38 64 (Int.toNat v5_40))]) (h' := gr_h I38 J39) (C := ((((True ∧ True) ∧ True) ∧ True) ∧ (0 ≤ v5_40 ∧ v5_40 < ((420 : Nat) : Int)))) rfl ⟨⟨⟨⟨trivial, trivial⟩, trivial⟩, trivial⟩, ⟨by omega, by omega⟩⟩ ?_
                  have f368 := (show 0 ≤ I38 0 106 ∧ I38 0 106 ≤ 16777215 from (hI38 0 106).1)
                  refine gv_run 2 true hD (pc' := 272) (lv' := [(0, .inr (.inr (some 0))), (1, .inl v1_10), (2, .inr (.inl v2_10)), (4, .inl v4_20), (5, .inl v5_40)]) (st' := [.inl (I38 0 106), .inl (I38 64 (Int.toNat v5_40))]) (h' := gr_h I38 J39) (C := ((True ∧ True) ∧ True)) rfl ⟨⟨trivial, trivial⟩, trivial⟩ ?_
                  refine gv_icmp_eq (t := 281) hD rfl rfl ⟨⟨by omega, by omega⟩, ⟨by omega, by omega⟩⟩ (fun c369 => ?_) (fun c369 => ?_)
                  · exact L281 ⟨by omega, by omega⟩ ⟨by omega, by omega⟩ ⟨by omega, by omega⟩ (by omega) (by omega) (by omega) (by omega) (by omega) (by omega) (by omega) (by omega) (by omega) (by omega) (by omega) (by omega) (by omega)
                  · refine gv_run 2 true hD (pc' := 254) (lv' := [(5, .inl (v5_40 + 1)), (0, .inr (.inr (some 0))), (1, .inl v1_10), (2, .inr (.inl v2_10)), (4, .inl v4_20)]) (st' := []) (h' := gr_h I38 J39) (C := ((True ∧ True) ∧ True)) rfl ⟨⟨trivial, trivial⟩, trivial⟩ ?_
                    refine gv_pick [1, 2, 3, 4, 0] rfl ?_
                    exact ih254 I38 J39 (v5_40 + 1) (by omega) hI38 FI38 FJ39 ⟨by omega, by omega⟩ ⟨by omega, by omega⟩ ⟨by omega, by omega⟩ (by omega) (by omega) (by omega) (by omega) (by omega) (by omega) (by omega) (by omega) (by omega) (by omega) (by omega) (by omega) (by omega)
            have f370 := (show 0 ≤ I28 0 71 ∧ I28 0 71 ≤ 5 from (hI28 0 71).1)
            refine gv_run 3 true hD (pc' := 228) (lv' := [(0, .inr (.inr (some 0))), (1, .inl v1_10), (2, .inr (.inl v2_10)), (4, .inl v4_20)]) (st' := [.inl 1, .inl (I28 0 71)]) (h' := gr_h I28 J29) (C := (((True ∧ True) ∧ True) ∧ True)) rfl ⟨⟨⟨trivial, trivial⟩, trivial⟩, trivial⟩ ?_
            refine gv_icmp_ne (t := 240) hD rfl rfl ⟨⟨by omega, by omega⟩, ⟨by omega, by omega⟩⟩ (fun c371 => ?_) (fun c371 => ?_)
            · refine gv_run 2 true hD (pc' := 243) (lv' := [(0, .inr (.inr (some 0))), (1, .inl v1_10), (2, .inr (.inl v2_10)), (4, .inl v4_20)]) (st' := [.inl 61, .inr (.inr (some 0))]) (h' := gr_h I28 J29) (C := ((True ∧ True) ∧ True)) rfl ⟨⟨trivial, trivial⟩, trivial⟩ ?_
              obtain ⟨r372, h372, E372, P372⟩ := r_need (ws0 := ws0) (tb := tb) hws htb ext I28 J29 hI28 61 ⟨by omega, by omega⟩ (by omega) (by omega) (by omega) (by omega) (by omega)
              obtain ⟨I373, J374, rfl, hI373, g372, k372, ⟨z372, rfl, q372⟩⟩ := P372
              have FI373 := gr_frt FI28 g372 rfl rfl
              have FJ374 := gr_fjt FJ29 k372 rfl rfl
              have t375 := g372 0 69 rfl
              have t376 := g372 0 6 rfl
              have t377 := g372 0 59 rfl
              have t378 := g372 0 42 rfl
              have t379 := g372 17 (Int.toNat v1_10) rfl
              have f380 := (show 0 ≤ I373 0 71 ∧ I373 0 71 ≤ 5 from (hI373 0 71).1)
              have f381 := (show 0 ≤ I373 0 72 ∧ I373 0 72 ≤ 1000 from (hI373 0 72).1)
              have f382 := (show 0 ≤ I373 0 73 ∧ I373 0 73 ≤ 1001 from (hI373 0 73).1)
              have f383 := (show 0 ≤ I373 0 69 ∧ I373 0 69 ≤ 1000 from (hI373 0 69).1)
              have f384 := (show (-1) ≤ I373 0 6 ∧ I373 0 6 ≤ 7 from (hI373 0 6).1)
              have f385 := (show 0 ≤ I373 0 59 ∧ I373 0 59 ≤ 2000 from (hI373 0 59).1)
              have f386 := (show 0 ≤ I373 0 42 ∧ I373 0 42 ≤ 2000 from (hI373 0 42).1)
              refine gv_callV hD rfl (As := [.inl 61]) (st := []) rfl (by decide) rfl rfl (gr_lV hws rfl) (Nat.le_of_ble_eq_true rfl) (gz_Ev_mono (d := 11) (by decide) E372) ?_
              show gv_X _ _ (246, [(0, .inr (.inr (some 0))), (1, .inl v1_10), (2, .inr (.inl v2_10)), (4, .inl v4_20)], [.inl z372], gr_sh ++ ext, gr_h I373 J374)
              refine gv_if_ne (t := 251) hD rfl rfl ⟨by omega, by omega⟩ (fun c387 => ?_) (fun c387 => ?_)
              · refine gv_run 2 true hD (pc' := 254) (lv' := [(5, .inl 0), (0, .inr (.inr (some 0))), (1, .inl v1_10), (2, .inr (.inl v2_10)), (4, .inl v4_20)]) (st' := []) (h' := gr_h I373 J374) (C := ((True ∧ True) ∧ True)) rfl ⟨⟨trivial, trivial⟩, trivial⟩ ?_
                refine gv_pick [1, 2, 3, 4, 0] rfl ?_
                exact L254 _ I373 J374 0 (Nat.lt_succ_self _) hI373 FI373 FJ374 ⟨by omega, by omega⟩ ⟨by omega, by omega⟩ ⟨by omega, by omega⟩ (by omega) (by omega) (by omega) (by omega) (by omega) (by omega) (by omega) (by omega) (by omega) (by omega) (by omega) (by omega) (by omega)
              · refine gv_run 1 true hD (pc' := 250) (lv' := [(0, .inr (.inr (some 0))), (1, .inl v1_10), (2, .inr (.inl v2_10)), (4, .inl v4_20)]) (st' := [.inl 0]) (h' := gr_h I373 J374) (C := (True ∧ True)) rfl ⟨trivial, trivial⟩ ?_
                exact gv_zret hD rfl (by omega) ⟨I373, J374, rfl, hI373, FI373, FJ374, ⟨_, rfl, by omega, by omega, by omega, by omega, by omega, by omega, by omega, by omega, by omega, by omega, by omega, by omega⟩⟩
            · refine gv_run 1 true hD (pc' := 232) (lv' := [(0, .inr (.inr (some 0))), (1, .inl v1_10), (2, .inr (.inl v2_10)), (4, .inl v4_20)]) (st' := [.inr (.inr (some 0))]) (h' := gr_h I28 J29) (C := (True ∧ True)) rfl ⟨trivial, trivial⟩ ?_
              obtain ⟨r388, h388, E388, P388⟩ := r_oneValue (ws0 := ws0) (tb := tb) hws htb ext I28 J29 hI28   (by omega) (by omega) (by omega) (by omega) (by omega) (by omega) (by omega)
              obtain ⟨I389, J390, rfl, hI389, g388, k388, ⟨z388, rfl, q388⟩⟩ := P388
              have FI389 := gr_frt FI28 g388 rfl rfl
              have FJ390 := gr_fjt FJ29 k388 rfl rfl
              have t391 := g388 0 69 rfl
              have t392 := g388 0 6 rfl
              have t393 := g388 0 59 rfl
              have t394 := g388 0 42 rfl
              have t395 := g388 17 (Int.toNat v1_10) rfl
              have f396 := (show 0 ≤ I389 0 71 ∧ I389 0 71 ≤ 5 from (hI389 0 71).1)
              have f397 := (show 0 ≤ I389 0 72 ∧ I389 0 72 ≤ 1000 from (hI389 0 72).1)
              have f398 := (show 0 ≤ I389 0 73 ∧ I389 0 73 ≤ 1001 from (hI389 0 73).1)
              have f399 := (show 0 ≤ I389 0 69 ∧ I389 0 69 ≤ 1000 from (hI389 0 69).1)
              have f400 := (show (-1) ≤ I389 0 6 ∧ I389 0 6 ≤ 7 from (hI389 0 6).1)
              have f401 := (show 0 ≤ I389 0 59 ∧ I389 0 59 ≤ 2000 from (hI389 0 59).1)
              have f402 := (show 0 ≤ I389 0 42 ∧ I389 0 42 ≤ 2000 from (hI389 0 42).1)
              refine gv_callV hD rfl (As := []) (st := []) rfl (by decide) rfl rfl (gr_lV hws rfl) (Nat.le_of_ble_eq_true rfl) (gz_Ev_mono (d := 11) (by decide) E388) ?_
              show gv_X _ _ (235, [(0, .inr (.inr (some 0))), (1, .inl v1_10), (2, .inr (.inl v2_10)), (4, .inl v4_20)], [.inl z388], gr_sh ++ ext, gr_h I389 J390)
              refine gv_if_ne (t := 223) hD rfl rfl ⟨by omega, by omega⟩ (fun c403 => ?_) (fun c403 => ?_)
              · exact ih223 I389 J390 (by omega) hI389 FI389 FJ390 ⟨by omega, by omega⟩ ⟨by omega, by omega⟩ (by omega) (by omega) (by omega) (by omega) (by omega) (by omega) (by omega) (by omega) (by omega) (by omega) (by omega) (by omega)
              · refine gv_run 1 true hD (pc' := 239) (lv' := [(0, .inr (.inr (some 0))), (1, .inl v1_10), (2, .inr (.inl v2_10)), (4, .inl v4_20)]) (st' := [.inl 0]) (h' := gr_h I389 J390) (C := (True ∧ True)) rfl ⟨trivial, trivial⟩ ?_
                exact gv_zret hD rfl (by omega) ⟨I389, J390, rfl, hI389, FI389, FJ390, ⟨_, rfl, by omega, by omega, by omega, by omega, by omega, by omega, by omega, by omega, by omega, by omega, by omega, by omega⟩⟩
        refine gv_run 3 true hD (pc' := 223) (lv' := [(0, .inr (.inr (some 0))), (1, .inl v1_10), (2, .inr (.inl v2_10)), (4, .inl v4_20)]) (st' := []) (h' := gz_up (gr_h I18 J19) 0 106 (.inl 0)) (C := (((True ∧ True) ∧ True) ∧ True)) rfl ⟨⟨⟨trivial, trivial⟩, trivial⟩, trivial⟩ ?_
        refine gr_st hI18 FI18 rfl rfl ⟨⟨by show 0 ≤ _; omega, by show _ ≤ 16777215; omega⟩, trivial⟩ (fun I404 hI404 FI404 q405 p405 => ?_)
        have t406 := p405 0 71 (by decide)
        have t407 := p405 0 72 (by decide)
        have t408 := p405 0 73 (by decide)
        have t409 := p405 0 69 (by decide)
        have t410 := p405 0 6 (by decide)
        have t411 := p405 0 59 (by decide)
        have t412 := p405 0 42 (by decide)
        have t413 := p405 17 (Int.toNat v1_10) (fun q => absurd q.1 (by decide))
        have f414 := (show 0 ≤ I404 0 71 ∧ I404 0 71 ≤ 5 from (hI404 0 71).1)
        have f415 := (show 0 ≤ I404 0 72 ∧ I404 0 72 ≤ 1000 from (hI404 0 72).1)
        have f416 := (show 0 ≤ I404 0 73 ∧ I404 0 73 ≤ 1001 from (hI404 0 73).1)
        have f417 := (show 0 ≤ I404 0 69 ∧ I404 0 69 ≤ 1000 from (hI404 0 69).1)
        have f418 := (show (-1) ≤ I404 0 6 ∧ I404 0 6 ≤ 7 from (hI404 0 6).1)
        have f419 := (show 0 ≤ I404 0 59 ∧ I404 0 59 ≤ 2000 from (hI404 0 59).1)
        have f420 := (show 0 ≤ I404 0 42 ∧ I404 0 42 ≤ 2000 from (hI404 0 42).1)
        exact L223 _ I404 J19 (Nat.lt_succ_self _) hI404 FI404 FJ19 ⟨by omega, by omega⟩ ⟨by omega, by omega⟩ (by omega) (by omega) (by omega) (by omega) (by omega) (by omega) (by omega) (by omega) (by omega) (by omega) (by omega) (by omega)
    refine gv_run 2 true hD (pc' := 210) (lv' := [(0, .inr (.inr (some 0))), (1, .inl v1_10), (2, .inr (.inl v2_10)), (4, .inl v4_10)]) (st' := [.inl 123, .inr (.inr (some 0))]) (h' := gr_h I8 J9) (C := ((True ∧ True) ∧ True)) rfl ⟨⟨trivial, trivial⟩, trivial⟩ ?_
    obtain ⟨r421, h421, E421, P421⟩ := r_need (ws0 := ws0) (tb := tb) hws htb ext I8 J9 hI8 123 ⟨by omega, by omega⟩ (by omega) (by omega) (by omega) (by omega) (by omega)
    obtain ⟨I422, J423, rfl, hI422, g421, k421, ⟨z421, rfl, q421⟩⟩ := P421
    have FI422 := gr_frt FI8 g421 rfl rfl
    have FJ423 := gr_fjt FJ9 k421 rfl rfl
    have t424 := g421 0 69 rfl
    have t425 := g421 0 6 rfl
    have t426 := g421 0 59 rfl
    have t427 := g421 0 42 rfl
    have t428 := g421 17 (Int.toNat v1_10) rfl
    have f429 := (show 0 ≤ I422 0 71 ∧ I422 0 71 ≤ 5 from (hI422 0 71).1)
    have f430 := (show 0 ≤ I422 0 72 ∧ I422 0 72 ≤ 1000 from (hI422 0 72).1)
    have f431 := (show 0 ≤ I422 0 73 ∧ I422 0 73 ≤ 1001 from (hI422 0 73).1)
    have f432 := (show 0 ≤ I422 0 69 ∧ I422 0 69 ≤ 1000 from (hI422 0 69).1)
    have f433 := (show (-1) ≤ I422 0 6 ∧ I422 0 6 ≤ 7 from (hI422 0 6).1)
    have f434 := (show 0 ≤ I422 0 59 ∧ I422 0 59 ≤ 2000 from (hI422 0 59).1)
    have f435 := (show 0 ≤ I422 0 42 ∧ I422 0 42 ≤ 2000 from (hI422 0 42).1)
    refine gv_callV hD rfl (As := [.inl 123]) (st := []) rfl (by decide) rfl rfl (gr_lV hws rfl) (Nat.le_of_ble_eq_true rfl) (gz_Ev_mono (d := 11) (by decide) E421) ?_
    show gv_X _ _ (213, [(0, .inr (.inr (some 0))), (1, .inl v1_10), (2, .inr (.inl v2_10)), (4, .inl v4_10)], [.inl z421], gr_sh ++ ext, gr_h I422 J423)
    refine gv_if_ne (t := 218) hD rfl rfl ⟨by omega, by omega⟩ (fun c436 => ?_) (fun c436 => ?_)
    · exact L218 _ I422 J423 v4_10 (Nat.lt_succ_self _) hI422 FI422 FJ423 ⟨by omega, by omega⟩ ⟨by omega, by omega⟩ (by omega) (by omega) (by omega) (by omega) (by omega) (by omega) (by omega) (by omega) (by omega) (by omega) (by omega) (by omega)
    · refine gv_run 1 true hD (pc' := 217) (lv' := [(0, .inr (.inr (some 0))), (1, .inl v1_10), (2, .inr (.inl v2_10)), (4, .inl v4_10)]) (st' := [.inl 0]) (h' := gr_h I422 J423) (C := (True ∧ True)) rfl ⟨trivial, trivial⟩ ?_
      exact gv_zret hD rfl (by omega) ⟨I422, J423, rfl, hI422, FI422, FJ423, ⟨_, rfl, by omega, by omega, by omega, by omega, by omega, by omega, by omega, by omega, by omega, by omega, by omega, by omega⟩⟩
  have L130 : ∀ (n : Nat) (I437 : gr_I) (J438 : gr_J) (v1_439 : Int) (v2_439 : Int64) (v4_439 : Int) (v5_439 : Int) (v6_439 : Int) (v7_439 : Int), (25 - v4_439).toNat < n → gr_Inv I437 → gr_fr [42, 59, 71, 72, 73, 74, 75, 76, 77, 106] [17, 23, 31, 32, 33, 34, 35, 51, 57, 64, 65, 66] I I437 → gr_fj [42, 59, 71, 72, 73, 74, 75, 76, 77, 106] [17, 23, 31, 32, 33, 34, 35, 51, 57, 64, 65, 66] J J438 → 0 ≤ v1_439 ∧ v1_439 ≤ 7 → 0 ≤ v4_439 ∧ v4_439 ≤ 24 → 0 ≤ v5_439 ∧ v5_439 ≤ 23 → 0 ≤ v6_439 ∧ v6_439 ≤ 4584 → 0 ≤ v7_439 ∧ v7_439 ≤ 24 → (v4_439 = v7_439) → (I437 0 71 = 5 ∨ I437 0 73 ≤ I437 0 69) → (I437 0 72 ≤ I437 0 69) → (I437 0 71 = 0 ∨ (I437 0 72 < I437 0 73 ∧ I437 0 72 < I437 0 69)) → (I437 0 71 = 3 → 2 ≤ I437 0 73 - I437 0 72 ∧ I437 0 73 - I437 0 72 ≤ 14) → (I437 0 72 ≤ I437 0 73) → (I437 0 69 = I 0 69) → (I 0 73 ≤ I437 0 73) → (I 0 72 ≤ I437 0 72) → (I437 0 6 = I 0 6) → (I437 0 59 - I437 0 72 ≤ I 0 59 - I 0 72) → (I437 0 42 - I437 0 72 ≤ I 0 42 - I 0 72) → gv_X (gr_E ws0 tb 11 (yX13_pattern, cX13_pattern, 8, (some .boolean)) kX13_pattern) (gv_Q cX13_pattern (some .boolean) (gr_sh ++ ext) (fun r h' => (∃ (I' : gr_I) (J' : gr_J), h' = gr_h I' J' ∧ gr_Inv I' ∧ gr_fr [42, 59, 71, 72, 73, 74, 75, 76, 77, 106] [17, 23, 31, 32, 33, 34, 35, 51, 57, 64, 65, 66] I I' ∧ gr_fj [42, 59, 71, 72, 73, 74, 75, 76, 77, 106] [17, 23, 31, 32, 33, 34, 35, 51, 57, 64, 65, 66] J J' ∧ (∃ z : Int, r = some (.inl z) ∧ 0 ≤ z ∧ z ≤ 1 ∧ (I' 0 71 = 5 ∨ I' 0 73 ≤ I' 0 69) ∧ (I' 0 72 ≤ I' 0 69) ∧ (I' 0 71 = 0 ∨ (I' 0 72 < I' 0 73 ∧ I' 0 72 < I' 0 69)) ∧ (I' 0 71 = 3 → 2 ≤ I' 0 73 - I' 0 72 ∧ I' 0 73 - I' 0 72 ≤ 14) ∧ (I' 0 72 ≤ I' 0 73) ∧ (I' 0 69 = I 0 69) ∧ (I 0 73 ≤ I' 0 73) ∧ (I 0 72 ≤ I' 0 72) ∧ (I' 0 59 - I' 0 72 ≤ I 0 59 - I 0 72) ∧ (I' 0 42 - I' 0 72 ≤ I 0 42 - I 0 72))))) (130, [(0, .inr (.inr (some 0))), (1, .inl v1_439), (2, .inr (.inl v2_439)), (4, .inl v4_439), (5, .inl v5_439), (6, .inl v6_439), (7, .inl v7_439)], [], gr_sh ++ ext, gr_h I437 J438) := by
    intro n
    induction n with
    | zero => intro I437 J438 v1_439 v2_439 v4_439 v5_439 v6_439 v7_439 hn; omega
    | succ n ih130 =>
      intro I437 J438 v1_439 v2_439 v4_439 v5_439 v6_439 v7_439 hn hI437 FI437 FJ438 hv1_439 hv4_439 hv5_439 hv6_439 hv7_439 e0_439 e1_439 e2_439 e3_439 e4_439 e5_439 e6_439 e7_439 e8_439 e9_439 e10_439 e11_439
      have f440 := (show 0 ≤ I437 0 71 ∧ I437 0 71 ≤ 5 from (hI437 0 71).1)
      have f441 := (show 0 ≤ I437 0 72 ∧ I437 0 72 ≤ 1000 from (hI437 0 72).1)
      have f442 := (show 0 ≤ I437 0 73 ∧ I437 0 73 ≤ 1001 from (hI437 0 73).1)
      have f443 := (show 0 ≤ I437 0 69 ∧ I437 0 69 ≤ 1000 from (hI437 0 69).1)
      have f444 := (show (-1) ≤ I437 0 6 ∧ I437 0 6 ≤ 7 from (hI437 0 6).1)
      have f445 := (show 0 ≤ I437 0 59 ∧ I437 0 59 ≤ 2000 from (hI437 0 59).1)
      have f446 := (show 0 ≤ I437 0 42 ∧ I437 0 42 ≤ 2000 from (hI437 0 42).1)
      refine gv_run 7 true hD (pc' := 142) (lv' := [(0, .inr (.inr (some 0))), (1, .inl v1_439), (2, .inr (.inl v2_439)), (4, .inl v4_439), (5, .inl v5_439), (6, .inl v6_439), (7, .inl v7_439)]) (st' := [.inl v5_439, .inl (24 * v1_439), .inr (.inr (some 31)), .inl v7_439]) (h' := gr_h I437 J438) (C := (((((((True ∧ True) ∧ True) ∧ True) ∧ True) ∧ True) ∧ True) ∧ True)) rfl ⟨⟨⟨⟨⟨⟨⟨trivial, trivial⟩, trivial⟩, trivial⟩, trivial⟩, trivial⟩, trivial⟩, trivial⟩ ?_
      have f447 := (show 0 ≤ I437 31 (Int.toNat (((24 * v1_439) + v5_439))) ∧ I437 31 (Int.toNat (((24 * v1_439) + v5_439))) ≤ 24 from (hI437 31 (Int.toNat (((24 * v1_439) + v5_439)))).1)
      refine gv_run 2 true hD (pc' := 144) (lv' := [(0, .inr (.inr (some 0))), (1, .inl v1_439), (2, .inr (.inl v2_439)), (4, .inl v4_439), (5, .inl v5_439), (6, .inl v6_439), (7, .inl v7_439)]) (st' := [.inl (I437 31 (Int.toNat (((24 * v1_439) + v5_439)))), .inl v7_439]) (h' := gr_h I437 J438) (C := ((True ∧ True) ∧ (0 ≤ (((24 * v1_439) + v5_439)) ∧ (((24 * v1_439) + v5_439)) < ((192 : Nat) : Int)))) rfl ⟨⟨trivial, trivial⟩, ⟨by omega, by omega⟩⟩ ?_
      refine gv_icmp_ge (t := 207) hD rfl rfl ⟨⟨by omega, by omega⟩, ⟨by omega, by omega⟩⟩ (fun c448 => ?_) (fun c448 => ?_)
      · refine gv_pick [0, 1, 2, 3] rfl ?_
        exact L207 I437 J438 v1_439 v2_439 v4_439 hI437 FI437 FJ438 ⟨by omega, by omega⟩ ⟨by omega, by omega⟩ (by omega) (by omega) (by omega) (by omega) (by omega) (by omega) (by omega) (by omega) (by omega) (by omega) (by omega) (by omega)
      · refine gv_run 7 true hD (pc' := 161) (lv' := [(0, .inr (.inr (some 0))), (1, .inl v1_439), (2, .inr (.inl v2_439)), (4, .inl v4_439), (5, .inl v5_439), (6, .inl v6_439), (7, .inl v7_439)]) (st' := [.inl v7_439, .inl v6_439, .inr (.inr (some 32)), .inl v4_439, .inr (.inr (some 64))]) (h' := gr_h I437 J438) (C := (((((((True ∧ True) ∧ True) ∧ True) ∧ True) ∧ True) ∧ True) ∧ True)) rfl ⟨⟨⟨⟨⟨⟨⟨trivial, trivial⟩, trivial⟩, trivial⟩, trivial⟩, trivial⟩, trivial⟩, trivial⟩ ?_
        have f449 := (show 0 ≤ I437 32 (Int.toNat ((v6_439 + v7_439))) ∧ I437 32 (Int.toNat ((v6_439 + v7_439))) ≤ 16777215 from (hI437 32 (Int.toNat ((v6_439 + v7_439)))).1)
        refine gv_run 2 true hD (pc' := 163) (lv' := [(0, .inr (.inr (some 0))), (1, .inl v1_439), (2, .inr (.inl v2_439)), (4, .inl v4_439), (5, .inl v5_439), (6, .inl v6_439), (7, .inl v7_439)]) (st' := [.inl (I437 32 (Int.toNat ((v6_439 + v7_439)))), .inl v4_439, .inr (.inr (some 64))]) (h' := gr_h I437 J438) (C := ((True ∧ True) ∧ (0 ≤ (v6_439 + v7_439) ∧ (v6_439 + v7_439) < ((4608 : Nat) : Int)))) rfl ⟨⟨trivial, trivial⟩, ⟨by omega, by omega⟩⟩ ?_
        refine gv_run 1 true hD (pc' := 164) (lv' := [(0, .inr (.inr (some 0))), (1, .inl v1_439), (2, .inr (.inl v2_439)), (4, .inl v4_439), (5, .inl v5_439), (6, .inl v6_439), (7, .inl v7_439)]) (st' := []) (h' := gz_up (gr_h I437 J438) 64 (Int.toNat v4_439) (.inl ((I437 32 (Int.toNat ((v6_439 + v7_439))))))) (C := (True ∧ (0 ≤ v4_439 ∧ v4_439 < ((420 : Nat) : Int)))) rfl ⟨trivial, ⟨by omega, by omega⟩⟩ ?_
        refine gr_st hI437 FI437 rfl rfl ⟨⟨by show 0 ≤ _; omega, by show _ ≤ 16777215; omega⟩, trivial⟩ (fun I450 hI450 FI450 q451 p451 => ?_)
        have t452 := p451 0 71 (fun q => absurd q.1 (by decide))
        have t453 := p451 0 72 (fun q => absurd q.1 (by decide))
        have t454 := p451 0 73 (fun q => absurd q.1 (by decide))
        have t455 := p451 0 69 (fun q => absurd q.1 (by decide))
        have t456 := p451 0 6 (fun q => absurd q.1 (by decide))
        have t457 := p451 0 59 (fun q => absurd q.1 (by decide))
        have t458 := p451 0 42 (fun q => absurd q.1 (by decide))
        have t459 := p451 17 (Int.toNat v1_439) (fun q => absurd q.1 (by decide))
        have t460 := p451 65 (Int.toNat v5_439) (fun q => absurd q.1 (by decide))
        have f461 := (show 0 ≤ I450 0 71 ∧ I450 0 71 ≤ 5 from (hI450 0 71).1)
        have f462 := (show 0 ≤ I450 0 72 ∧ I450 0 72 ≤ 1000 from (hI450 0 72).1)
        have f463 := (show 0 ≤ I450 0 73 ∧ I450 0 73 ≤ 1001 from (hI450 0 73).1)
        have f464 := (show 0 ≤ I450 0 69 ∧ I450 0 69 ≤ 1000 from (hI450 0 69).1)
        have f465 := (show (-1) ≤ I450 0 6 ∧ I450 0 6 ≤ 7 from (hI450 0 6).1)
        have f466 := (show 0 ≤ I450 0 59 ∧ I450 0 59 ≤ 2000 from (hI450 0 59).1)
        have f467 := (show 0 ≤ I450 0 42 ∧ I450 0 42 ≤ 2000 from (hI450 0 42).1)
        refine gv_run 7 true hD (pc' := 178) (lv' := [(0, .inr (.inr (some 0))), (1, .inl v1_439), (2, .inr (.inl v2_439)), (4, .inl v4_439), (5, .inl v5_439), (6, .inl v6_439), (7, .inl v7_439)]) (st' := [.inl v7_439, .inl v6_439, .inr (.inr (some 33)), .inl v4_439, .inr (.inr (some 65))]) (h' := gr_h I450 J438) (C := (((((((True ∧ True) ∧ True) ∧ True) ∧ True) ∧ True) ∧ True) ∧ True)) rfl ⟨⟨⟨⟨⟨⟨⟨trivial, trivial⟩, trivial⟩, trivial⟩, trivial⟩, trivial⟩, trivial⟩, trivial⟩ ?_
        have f468 := (show 0 ≤ I450 33 (Int.toNat ((v6_439 + v7_439))) ∧ I450 33 (Int.toNat ((v6_439 + v7_439))) ≤ 2000 from (hI450 33 (Int.toNat ((v6_439 + v7_439)))).1)
        refine gv_run 2 true hD (pc' := 180) (lv' := [(0, .inr (.inr (some 0))), (1, .inl v1_439), (2, .inr (.inl v2_439)), (4, .inl v4_439), (5, .inl v5_439), (6, .inl v6_439), (7, .inl v7_439)]) (st' := [.inl (I450 33 (Int.toNat ((v6_439 + v7_439)))), .inl v4_439, .inr (.inr (some 65))]) (h' := gr_h I450 J438) (C := ((True ∧ True) ∧ (0 ≤ (v6_439 + v7_439) ∧ (v6_439 + v7_439) < ((4608 : Nat) : Int)))) rfl ⟨⟨trivial, trivial⟩, ⟨by omega, by omega⟩⟩ ?_
        refine gv_run 1 true hD (pc' := 181) (lv' := [(0, .inr (.inr (some 0))), (1, .inl v1_439), (2, .inr (.inl v2_439)), (4, .inl v4_439), (5, .inl v5_439), (6, .inl v6_439), (7, .inl v7_439)]) (st' := []) (h' := gz_up (gr_h I450 J438) 65 (Int.toNat v4_439) (.inl ((I450 33 (Int.toNat ((v6_439 + v7_439))))))) (C := (True ∧ (0 ≤ v4_439 ∧ v4_439 < ((420 : Nat) : Int)))) rfl ⟨trivial, ⟨by omega, by omega⟩⟩ ?_
        refine gr_st hI450 FI450 rfl rfl ⟨⟨by show 0 ≤ _; omega, by show _ ≤ 2000; omega⟩, trivial⟩ (fun I469 hI469 FI469 q470 p470 => ?_)
        have t471 := p470 0 71 (fun q => absurd q.1 (by decide))
        have t472 := p470 0 72 (fun q => absurd q.1 (by decide))
        have t473 := p470 0 73 (fun q => absurd q.1 (by decide))
        have t474 := p470 0 69 (fun q => absurd q.1 (by decide))
        have t475 := p470 0 6 (fun q => absurd q.1 (by decide))
        have t476 := p470 0 59 (fun q => absurd q.1 (by decide))
        have t477 := p470 0 42 (fun q => absurd q.1 (by decide))
        have t478 := p470 17 (Int.toNat v1_439) (fun q => absurd q.1 (by decide))
        have f479 := (show 0 ≤ I469 0 71 ∧ I469 0 71 ≤ 5 from (hI469 0 71).1)
        have f480 := (show 0 ≤ I469 0 72 ∧ I469 0 72 ≤ 1000 from (hI469 0 72).1)
        have f481 := (show 0 ≤ I469 0 73 ∧ I469 0 73 ≤ 1001 from (hI469 0 73).1)
        have f482 := (show 0 ≤ I469 0 69 ∧ I469 0 69 ≤ 1000 from (hI469 0 69).1)
        have f483 := (show (-1) ≤ I469 0 6 ∧ I469 0 6 ≤ 7 from (hI469 0 6).1)
        have f484 := (show 0 ≤ I469 0 59 ∧ I469 0 59 ≤ 2000 from (hI469 0 59).1)
        have f485 := (show 0 ≤ I469 0 42 ∧ I469 0 42 ≤ 2000 from (hI469 0 42).1)
        refine gv_run 7 true hD (pc' := 196) (lv' := [(4, .inl (v4_439 + 1)), (0, .inr (.inr (some 0))), (1, .inl v1_439), (2, .inr (.inl v2_439)), (5, .inl v5_439), (6, .inl v6_439), (7, .inl v7_439)]) (st' := [.inl v6_439, .inr (.inr (some 34)), .inl v4_439, .inr (.inr (some 66))]) (h' := gr_h I469 J438) (C := (((((((True ∧ True) ∧ True) ∧ True) ∧ True) ∧ True) ∧ True) ∧ True)) rfl ⟨⟨⟨⟨⟨⟨⟨trivial, trivial⟩, trivial⟩, trivial⟩, trivial⟩, trivial⟩, trivial⟩, trivial⟩ ?_
        have f486 := (show (-1) ≤ I469 34 (Int.toNat ((v6_439 + v7_439))) ∧ I469 34 (Int.toNat ((v6_439 + v7_439))) ≤ 2000 from (hI469 34 (Int.toNat ((v6_439 + v7_439)))).1)
        refine gv_run 3 true hD (pc' := 200) (lv' := [(4, .inl (v4_439 + 1)), (0, .inr (.inr (some 0))), (1, .inl v1_439), (2, .inr (.inl v2_439)), (5, .inl v5_439), (6, .inl v6_439), (7, .inl v7_439)]) (st' := [.inl (I469 34 (Int.toNat ((v6_439 + v7_439)))), .inl v4_439, .inr (.inr (some 66))]) (h' := gr_h I469 J438) (C := (((True ∧ True) ∧ True) ∧ (0 ≤ (v6_439 + v7_439) ∧ (v6_439 + v7_439) < ((4608 : Nat) : Int)))) rfl ⟨⟨⟨trivial, trivial⟩, trivial⟩, ⟨by omega, by omega⟩⟩ ?_
        refine gv_run 1 true hD (pc' := 201) (lv' := [(4, .inl (v4_439 + 1)), (0, .inr (.inr (some 0))), (1, .inl v1_439), (2, .inr (.inl v2_439)), (5, .inl v5_439), (6, .inl v6_439), (7, .inl v7_439)]) (st' := []) (h' := gz_up (gr_h I469 J438) 66 (Int.toNat v4_439) (.inl ((I469 34 (Int.toNat ((v6_439 + v7_439))))))) (C := (True ∧ (0 ≤ v4_439 ∧ v4_439 < ((420 : Nat) : Int)))) rfl ⟨trivial, ⟨by omega, by omega⟩⟩ ?_
        refine gr_st hI469 FI469 rfl rfl ⟨⟨by show (-1) ≤ _; omega, by show _ ≤ 2000; omega⟩, trivial⟩ (fun I487 hI487 FI487 q488 p488 => ?_)
        have t489 := p488 0 71 (fun q => absurd q.1 (by decide))
        have t490 := p488 0 72 (fun q => absurd q.1 (by decide))
        have t491 := p488 0 73 (fun q => absurd q.1 (by decide))
        have t492 := p488 0 69 (fun q => absurd q.1 (by decide))
        have t493 := p488 0 6 (fun q => absurd q.1 (by decide))
        have t494 := p488 0 59 (fun q => absurd q.1 (by decide))
        have t495 := p488 0 42 (fun q => absurd q.1 (by decide))
        have t496 := p488 17 (Int.toNat v1_439) (fun q => absurd q.1 (by decide))
        have t497 := p488 65 (Int.toNat v5_439) (fun q => absurd q.1 (by decide))
        have f498 := (show 0 ≤ I487 0 71 ∧ I487 0 71 ≤ 5 from (hI487 0 71).1)
        have f499 := (show 0 ≤ I487 0 72 ∧ I487 0 72 ≤ 1000 from (hI487 0 72).1)
        have f500 := (show 0 ≤ I487 0 73 ∧ I487 0 73 ≤ 1001 from (hI487 0 73).1)
        have f501 := (show 0 ≤ I487 0 69 ∧ I487 0 69 ≤ 1000 from (hI487 0 69).1)
        have f502 := (show (-1) ≤ I487 0 6 ∧ I487 0 6 ≤ 7 from (hI487 0 6).1)
        have f503 := (show 0 ≤ I487 0 59 ∧ I487 0 59 ≤ 2000 from (hI487 0 59).1)
        have f504 := (show 0 ≤ I487 0 42 ∧ I487 0 42 ≤ 2000 from (hI487 0 42).1)
        refine gv_run 2 true hD (pc' := 130) (lv' := [(7, .inl (v7_439 + 1)), (4, .inl (v4_439 + 1)), (0, .inr (.inr (some 0))), (1, .inl v1_439), (2, .inr (.inl v2_439)), (5, .inl v5_439), (6, .inl v6_439)]) (st' := []) (h' := gr_h I487 J438) (C := ((True ∧ True) ∧ True)) rfl ⟨⟨trivial, trivial⟩, trivial⟩ ?_
        refine gv_pick [2, 3, 4, 1, 5, 6, 0] rfl ?_
        exact ih130 I487 J438 v1_439 v2_439 (v4_439 + 1) v5_439 v6_439 (v7_439 + 1) (by omega) hI487 FI487 FJ438 ⟨by omega, by omega⟩ ⟨by omega, by omega⟩ ⟨by omega, by omega⟩ ⟨by omega, by omega⟩ ⟨by omega, by omega⟩ (by omega) (by omega) (by omega) (by omega) (by omega) (by omega) (by omega) (by omega) (by omega) (by omega) (by omega) (by omega)
  have f505 := (show (-1) ≤ I 0 6 ∧ I 0 6 ≤ 7 from (hI 0 6).1)
  refine gv_run 4 true hD (pc' := 6) (lv' := [(1, .inl (I 0 6)), (0, .inr (.inr (some 0)))]) (st' := [.inr (.inr (some 0))]) (h' := gr_h I J) (C := ((((True ∧ True) ∧ True) ∧ True) ∧ True)) rfl ⟨⟨⟨⟨trivial, trivial⟩, trivial⟩, trivial⟩, trivial⟩ ?_
  obtain ⟨r506, h506, E506, P506⟩ := r_name (ws0 := ws0) (tb := tb) hws htb ext I J hI   
  obtain ⟨I507, J508, rfl, hI507, g506, k506, ⟨z506, rfl, q506⟩⟩ := P506
  have FI507 := gr_frt FI g506 rfl rfl
  have FJ508 := gr_fjt FJ k506 rfl rfl
  have t509 := g506 0 71 rfl
  have t510 := g506 0 72 rfl
  have t511 := g506 0 73 rfl
  have t512 := g506 0 69 rfl
  have t513 := g506 0 6 rfl
  have t514 := g506 0 59 rfl
  have t515 := g506 0 42 rfl
  have t516 := g506 17 (Int.toNat ((I 0 6))) rfl
  have f517 := (show 0 ≤ I507 0 71 ∧ I507 0 71 ≤ 5 from (hI507 0 71).1)
  have f518 := (show 0 ≤ I507 0 72 ∧ I507 0 72 ≤ 1000 from (hI507 0 72).1)
  have f519 := (show 0 ≤ I507 0 73 ∧ I507 0 73 ≤ 1001 from (hI507 0 73).1)
  have f520 := (show 0 ≤ I507 0 69 ∧ I507 0 69 ≤ 1000 from (hI507 0 69).1)
  have f521 := (show (-1) ≤ I507 0 6 ∧ I507 0 6 ≤ 7 from (hI507 0 6).1)
  have f522 := (show 0 ≤ I507 0 59 ∧ I507 0 59 ≤ 2000 from (hI507 0 59).1)
  have f523 := (show 0 ≤ I507 0 42 ∧ I507 0 42 ≤ 2000 from (hI507 0 42).1)
  refine gv_callV hD rfl (As := []) (st := []) rfl (by decide) rfl rfl (gr_lV hws rfl) (Nat.le_of_ble_eq_true rfl) (gz_Ev_mono (d := 3) (by decide) E506) ?_
  show gv_X _ _ (9, [(1, .inl (I 0 6)), (0, .inr (.inr (some 0)))], [.inl z506], gr_sh ++ ext, gr_h I507 J508)
  refine gv_if_ne (t := 14) hD rfl rfl ⟨by omega, by omega⟩ (fun c524 => ?_) (fun c524 => ?_)
  · refine gv_run 7 true hD (pc' := 26) (lv' := [(2, .inr (.inl (J508 0 75))), (1, .inl (I 0 6)), (0, .inr (.inr (some 0)))]) (st' := [.inl (I 0 6), .inl 24, .inr (.inr (some 23))]) (h' := gr_h I507 J508) (C := (((((((True ∧ True) ∧ True) ∧ True) ∧ True) ∧ True) ∧ True) ∧ True)) rfl ⟨⟨⟨⟨⟨⟨⟨trivial, trivial⟩, trivial⟩, trivial⟩, trivial⟩, trivial⟩, trivial⟩, trivial⟩ ?_
    have f525 := (show 0 ≤ I507 17 (Int.toNat ((I 0 6))) ∧ I507 17 (Int.toNat ((I 0 6))) ≤ 24 from (hI507 17 (Int.toNat ((I 0 6)))).1)
    refine gv_run 5 true hD (pc' := 33) (lv' := [(2, .inr (.inl (J508 0 75))), (1, .inl (I 0 6)), (0, .inr (.inr (some 0)))]) (st' := [.inl (I507 17 (Int.toNat ((I 0 6)))), .inl (24 * (I 0 6)), .inr (.inr (some 23))]) (h' := gr_h I507 J508) (C := (((((True ∧ True) ∧ True) ∧ True) ∧ True) ∧ (0 ≤ (I 0 6) ∧ (I 0 6) < ((8 : Nat) : Int)))) rfl ⟨⟨⟨⟨⟨trivial, trivial⟩, trivial⟩, trivial⟩, trivial⟩, ⟨by omega, by omega⟩⟩ ?_
    refine gv_run 1 true hD (pc' := 34) (lv' := [(2, .inr (.inl (J508 0 75))), (1, .inl (I 0 6)), (0, .inr (.inr (some 0)))]) (st' := [.inr (.inl (J508 0 75)), .inl (I507 17 (Int.toNat ((I 0 6)))), .inl (24 * (I 0 6)), .inr (.inr (some 23))]) (h' := gr_h I507 J508) (C := (True ∧ True)) rfl ⟨trivial, trivial⟩ ?_
    obtain ⟨r526, h526, E526, P526⟩ := r_find_23 (ws0 := ws0) (tb := tb) hws htb ext I507 J508 hI507 ((24 * (I 0 6))) ((I507 17 (Int.toNat ((I 0 6))))) (J508 0 75) ⟨by omega, by omega⟩ ⟨by omega, by omega⟩ (by omega)
    obtain ⟨rfl, ⟨z526, rfl, q526⟩⟩ := P526
    refine gv_callS hD rfl (As := [.inr (.inr (some 23)), .inl (24 * (I 0 6)), .inl (I507 17 (Int.toNat ((I 0 6)))), .inr (.inl (J508 0 75))]) (st := []) rfl (gr_lS hws rfl) (Nat.le_of_ble_eq_true rfl) (gz_Ev_mono (d := 1) (by decide) E526) ?_
    show gv_X _ _ (37, [(2, .inr (.inl (J508 0 75))), (1, .inl (I 0 6)), (0, .inr (.inr (some 0)))], [.inl z526], gr_sh ++ ext, gr_h I507 J508)
    refine gv_if_lt (t := 46) hD rfl rfl ⟨by omega, by omega⟩ (fun c527 => ?_) (fun c527 => ?_)
    · refine gv_run 1 true hD (pc' := 47) (lv' := [(2, .inr (.inl (J508 0 75))), (1, .inl (I 0 6)), (0, .inr (.inr (some 0)))]) (st' := [.inr (.inr (some 0))]) (h' := gr_h I507 J508) (C := (True ∧ True)) rfl ⟨trivial, trivial⟩ ?_
      obtain ⟨r528, h528, E528, P528⟩ := r_next (ws0 := ws0) (tb := tb) hws htb ext I507 J508 hI507   (by omega)
      obtain ⟨I529, J530, rfl, hI529, g528, k528, ⟨rfl, q528⟩⟩ := P528
      have FI529 := gr_frt FI507 g528 rfl rfl
      have FJ530 := gr_fjt FJ508 k528 rfl rfl
      have t531 := g528 0 69 rfl
      have t532 := g528 0 6 rfl
      have t533 := g528 0 59 rfl
      have t534 := g528 0 42 rfl
      have t535 := g528 17 (Int.toNat ((I 0 6))) rfl
      have f536 := (show 0 ≤ I529 0 71 ∧ I529 0 71 ≤ 5 from (hI529 0 71).1)
      have f537 := (show 0 ≤ I529 0 72 ∧ I529 0 72 ≤ 1000 from (hI529 0 72).1)
      have f538 := (show 0 ≤ I529 0 73 ∧ I529 0 73 ≤ 1001 from (hI529 0 73).1)
      have f539 := (show 0 ≤ I529 0 69 ∧ I529 0 69 ≤ 1000 from (hI529 0 69).1)
      have f540 := (show (-1) ≤ I529 0 6 ∧ I529 0 6 ≤ 7 from (hI529 0 6).1)
      have f541 := (show 0 ≤ I529 0 59 ∧ I529 0 59 ≤ 2000 from (hI529 0 59).1)
      have f542 := (show 0 ≤ I529 0 42 ∧ I529 0 42 ≤ 2000 from (hI529 0 42).1)
      refine gv_callV hD rfl (As := []) (st := []) rfl (by decide) rfl rfl (gr_lV hws rfl) (Nat.le_of_ble_eq_true rfl) (gz_Ev_mono (d := 10) (by decide) E528) ?_
      show gv_X _ _ (50, [(2, .inr (.inl (J508 0 75))), (1, .inl (I 0 6)), (0, .inr (.inr (some 0)))], [], gr_sh ++ ext, gr_h I529 J530)
      refine gv_run 5 true hD (pc' := 58) (lv' := [(4, .inl 0), (2, .inr (.inl (J508 0 75))), (1, .inl (I 0 6)), (0, .inr (.inr (some 0)))]) (st' := [.inr (.inl (J530 0 94)), .inr (.inr (some 0))]) (h' := gr_h I529 J530) (C := (((((True ∧ True) ∧ True) ∧ True) ∧ True) ∧ True)) rfl ⟨⟨⟨⟨⟨trivial, trivial⟩, trivial⟩, trivial⟩, trivial⟩, trivial⟩ ?_
      obtain ⟨r543, h543, E543, P543⟩ := r_is (ws0 := ws0) (tb := tb) hws htb ext I529 J530 hI529 (J530 0 94)  
      obtain ⟨rfl, ⟨z543, rfl, q543⟩⟩ := P543
      refine gv_callV hD rfl (As := [.inr (.inl (J530 0 94))]) (st := []) rfl (by decide) rfl rfl (gr_lV hws rfl) (Nat.le_of_ble_eq_true rfl) (gz_Ev_mono (d := 1) (by decide) E543) ?_
      show gv_X _ _ (61, [(4, .inl 0), (2, .inr (.inl (J508 0 75))), (1, .inl (I 0 6)), (0, .inr (.inr (some 0)))], [.inl z543], gr_sh ++ ext, gr_h I529 J530)
      refine gv_if_eq (t := 207) hD rfl rfl ⟨by omega, by omega⟩ (fun c544 => ?_) (fun c544 => ?_)
      · refine gv_pick [3, 2, 1, 0] rfl ?_
        exact L207 I529 J530 (I 0 6) (J508 0 75) 0 hI529 FI529 FJ530 ⟨by omega, by omega⟩ ⟨by omega, by omega⟩ (by omega) (by omega) (by omega) (by omega) (by omega) (by omega) (by omega) (by omega) (by omega) (by omega) (by omega) (by omega)
      · refine gv_run 1 true hD (pc' := 65) (lv' := [(4, .inl 0), (2, .inr (.inl (J508 0 75))), (1, .inl (I 0 6)), (0, .inr (.inr (some 0)))]) (st' := [.inr (.inr (some 0))]) (h' := gr_h I529 J530) (C := (True ∧ True)) rfl ⟨trivial, trivial⟩ ?_
        obtain ⟨r545, h545, E545, P545⟩ := r_next (ws0 := ws0) (tb := tb) hws htb ext I529 J530 hI529   (by omega)
        obtain ⟨I546, J547, rfl, hI546, g545, k545, ⟨rfl, q545⟩⟩ := P545
        have FI546 := gr_frt FI529 g545 rfl rfl
        have FJ547 := gr_fjt FJ530 k545 rfl rfl
        have t548 := g545 0 69 rfl
        have t549 := g545 0 6 rfl
        have t550 := g545 0 59 rfl
        have t551 := g545 0 42 rfl
        have t552 := g545 17 (Int.toNat ((I 0 6))) rfl
        have f553 := (show 0 ≤ I546 0 71 ∧ I546 0 71 ≤ 5 from (hI546 0 71).1)
        have f554 := (show 0 ≤ I546 0 72 ∧ I546 0 72 ≤ 1000 from (hI546 0 72).1)
        have f555 := (show 0 ≤ I546 0 73 ∧ I546 0 73 ≤ 1001 from (hI546 0 73).1)
        have f556 := (show 0 ≤ I546 0 69 ∧ I546 0 69 ≤ 1000 from (hI546 0 69).1)
        have f557 := (show (-1) ≤ I546 0 6 ∧ I546 0 6 ≤ 7 from (hI546 0 6).1)
        have f558 := (show 0 ≤ I546 0 59 ∧ I546 0 59 ≤ 2000 from (hI546 0 59).1)
        have f559 := (show 0 ≤ I546 0 42 ∧ I546 0 42 ≤ 2000 from (hI546 0 42).1)
        refine gv_callV hD rfl (As := []) (st := []) rfl (by decide) rfl rfl (gr_lV hws rfl) (Nat.le_of_ble_eq_true rfl) (gz_Ev_mono (d := 10) (by decide) E545) ?_
        show gv_X _ _ (68, [(4, .inl 0), (2, .inr (.inl (J508 0 75))), (1, .inl (I 0 6)), (0, .inr (.inr (some 0)))], [], gr_sh ++ ext, gr_h I546 J547)
        refine gv_run 1 true hD (pc' := 69) (lv' := [(4, .inl 0), (2, .inr (.inl (J508 0 75))), (1, .inl (I 0 6)), (0, .inr (.inr (some 0)))]) (st' := [.inr (.inr (some 0))]) (h' := gr_h I546 J547) (C := (True ∧ True)) rfl ⟨trivial, trivial⟩ ?_
        obtain ⟨r560, h560, E560, P560⟩ := r_name (ws0 := ws0) (tb := tb) hws htb ext I546 J547 hI546   
        obtain ⟨I561, J562, rfl, hI561, g560, k560, ⟨z560, rfl, q560⟩⟩ := P560
        have FI561 := gr_frt FI546 g560 rfl rfl
        have FJ562 := gr_fjt FJ547 k560 rfl rfl
        have t563 := g560 0 71 rfl
        have t564 := g560 0 72 rfl
        have t565 := g560 0 73 rfl
        have t566 := g560 0 69 rfl
        have t567 := g560 0 6 rfl
        have t568 := g560 0 59 rfl
        have t569 := g560 0 42 rfl
        have t570 := g560 17 (Int.toNat ((I 0 6))) rfl
        have f571 := (show 0 ≤ I561 0 71 ∧ I561 0 71 ≤ 5 from (hI561 0 71).1)
        have f572 := (show 0 ≤ I561 0 72 ∧ I561 0 72 ≤ 1000 from (hI561 0 72).1)
        have f573 := (show 0 ≤ I561 0 73 ∧ I561 0 73 ≤ 1001 from (hI561 0 73).1)
        have f574 := (show 0 ≤ I561 0 69 ∧ I561 0 69 ≤ 1000 from (hI561 0 69).1)
        have f575 := (show (-1) ≤ I561 0 6 ∧ I561 0 6 ≤ 7 from (hI561 0 6).1)
        have f576 := (show 0 ≤ I561 0 59 ∧ I561 0 59 ≤ 2000 from (hI561 0 59).1)
        have f577 := (show 0 ≤ I561 0 42 ∧ I561 0 42 ≤ 2000 from (hI561 0 42).1)
        refine gv_callV hD rfl (As := []) (st := []) rfl (by decide) rfl rfl (gr_lV hws rfl) (Nat.le_of_ble_eq_true rfl) (gz_Ev_mono (d := 3) (by decide) E560) ?_
        show gv_X _ _ (72, [(4, .inl 0), (2, .inr (.inl (J508 0 75))), (1, .inl (I 0 6)), (0, .inr (.inr (some 0)))], [.inl z560], gr_sh ++ ext, gr_h I561 J562)
        refine gv_if_ne (t := 77) hD rfl rfl ⟨by omega, by omega⟩ (fun c578 => ?_) (fun c578 => ?_)
        · refine gv_run 7 true hD (pc' := 89) (lv' := [(4, .inl 0), (2, .inr (.inl (J508 0 75))), (1, .inl (I 0 6)), (0, .inr (.inr (some 0)))]) (st' := [.inr (.inr (some 17)), .inl (24 * (I 0 6)), .inr (.inr (some 23))]) (h' := gr_h I561 J562) (C := (((((((True ∧ True) ∧ True) ∧ True) ∧ True) ∧ True) ∧ True) ∧ True)) rfl ⟨⟨⟨⟨⟨⟨⟨trivial, trivial⟩, trivial⟩, trivial⟩, trivial⟩, trivial⟩, trivial⟩, trivial⟩ ?_
          have f579 := (show 0 ≤ I561 17 (Int.toNat ((I 0 6))) ∧ I561 17 (Int.toNat ((I 0 6))) ≤ 24 from (hI561 17 (Int.toNat ((I 0 6)))).1)
          refine gv_run 2 true hD (pc' := 91) (lv' := [(4, .inl 0), (2, .inr (.inl (J508 0 75))), (1, .inl (I 0 6)), (0, .inr (.inr (some 0)))]) (st' := [.inl (I561 17 (Int.toNat ((I 0 6)))), .inl (24 * (I 0 6)), .inr (.inr (some 23))]) (h' := gr_h I561 J562) (C := ((True ∧ True) ∧ (0 ≤ (I 0 6) ∧ (I 0 6) < ((8 : Nat) : Int)))) rfl ⟨⟨trivial, trivial⟩, ⟨by omega, by omega⟩⟩ ?_
          refine gv_run 2 true hD (pc' := 95) (lv' := [(4, .inl 0), (2, .inr (.inl (J508 0 75))), (1, .inl (I 0 6)), (0, .inr (.inr (some 0)))]) (st' := [.inr (.inl (J562 0 75)), .inl (I561 17 (Int.toNat ((I 0 6)))), .inl (24 * (I 0 6)), .inr (.inr (some 23))]) (h' := gr_h I561 J562) (C := ((True ∧ True) ∧ True)) rfl ⟨⟨trivial, trivial⟩, trivial⟩ ?_
          obtain ⟨r580, h580, E580, P580⟩ := r_find_23 (ws0 := ws0) (tb := tb) hws htb ext I561 J562 hI561 ((24 * (I 0 6))) ((I561 17 (Int.toNat ((I 0 6))))) (J562 0 75) ⟨by omega, by omega⟩ ⟨by omega, by omega⟩ (by omega)
          obtain ⟨rfl, ⟨z580, rfl, q580⟩⟩ := P580
          refine gv_callS hD rfl (As := [.inr (.inr (some 23)), .inl (24 * (I 0 6)), .inl (I561 17 (Int.toNat ((I 0 6)))), .inr (.inl (J562 0 75))]) (st := []) rfl (gr_lS hws rfl) (Nat.le_of_ble_eq_true rfl) (gz_Ev_mono (d := 1) (by decide) E580) ?_
          show gv_X _ _ (98, [(4, .inl 0), (2, .inr (.inl (J508 0 75))), (1, .inl (I 0 6)), (0, .inr (.inr (some 0)))], [.inl z580], gr_sh ++ ext, gr_h I561 J562)
          refine gv_run 2 true hD (pc' := 102) (lv' := [(5, .inl z580), (4, .inl 0), (2, .inr (.inl (J508 0 75))), (1, .inl (I 0 6)), (0, .inr (.inr (some 0)))]) (st' := [.inl z580]) (h' := gr_h I561 J562) (C := ((True ∧ True) ∧ True)) rfl ⟨⟨trivial, trivial⟩, trivial⟩ ?_
          refine gv_if_ge (t := 111) hD rfl rfl ⟨by omega, by omega⟩ (fun c581 => ?_) (fun c581 => ?_)
          · refine gv_run 1 true hD (pc' := 112) (lv' := [(5, .inl z580), (4, .inl 0), (2, .inr (.inl (J508 0 75))), (1, .inl (I 0 6)), (0, .inr (.inr (some 0)))]) (st' := [.inr (.inr (some 0))]) (h' := gr_h I561 J562) (C := (True ∧ True)) rfl ⟨trivial, trivial⟩ ?_
            obtain ⟨r582, h582, E582, P582⟩ := r_next (ws0 := ws0) (tb := tb) hws htb ext I561 J562 hI561   (by omega)
            obtain ⟨I583, J584, rfl, hI583, g582, k582, ⟨rfl, q582⟩⟩ := P582
            have FI583 := gr_frt FI561 g582 rfl rfl
            have FJ584 := gr_fjt FJ562 k582 rfl rfl
            have t585 := g582 0 69 rfl
            have t586 := g582 0 6 rfl
            have t587 := g582 0 59 rfl
            have t588 := g582 0 42 rfl
            have t589 := g582 17 (Int.toNat ((I 0 6))) rfl
            have t590 := g582 65 (Int.toNat z580) rfl
            have f591 := (show 0 ≤ I583 0 71 ∧ I583 0 71 ≤ 5 from (hI583 0 71).1)
            have f592 := (show 0 ≤ I583 0 72 ∧ I583 0 72 ≤ 1000 from (hI583 0 72).1)
            have f593 := (show 0 ≤ I583 0 73 ∧ I583 0 73 ≤ 1001 from (hI583 0 73).1)
            have f594 := (show 0 ≤ I583 0 69 ∧ I583 0 69 ≤ 1000 from (hI583 0 69).1)
            have f595 := (show (-1) ≤ I583 0 6 ∧ I583 0 6 ≤ 7 from (hI583 0 6).1)
            have f596 := (show 0 ≤ I583 0 59 ∧ I583 0 59 ≤ 2000 from (hI583 0 59).1)
            have f597 := (show 0 ≤ I583 0 42 ∧ I583 0 42 ≤ 2000 from (hI583 0 42).1)
            refine gv_callV hD rfl (As := []) (st := []) rfl (by decide) rfl rfl (gr_lV hws rfl) (Nat.le_of_ble_eq_true rfl) (gz_Ev_mono (d := 10) (by decide) E582) ?_
            show gv_X _ _ (115, [(5, .inl z580), (4, .inl 0), (2, .inr (.inl (J508 0 75))), (1, .inl (I 0 6)), (0, .inr (.inr (some 0)))], [], gr_sh ++ ext, gr_h I583 J584)
            refine gv_run 7 true hD (pc' := 125) (lv' := [(5, .inl z580), (4, .inl 0), (2, .inr (.inl (J508 0 75))), (1, .inl (I 0 6)), (0, .inr (.inr (some 0)))]) (st' := [.inl (24 * ((24 * (I 0 6)) + z580))]) (h' := gr_h I583 J584) (C := (((((((True ∧ True) ∧ True) ∧ True) ∧ True) ∧ True) ∧ True) ∧ True)) rfl ⟨⟨⟨⟨⟨⟨⟨trivial, trivial⟩, trivial⟩, trivial⟩, trivial⟩, trivial⟩, trivial⟩, trivial⟩ ?_
            refine gv_run 3 true hD (pc' := 130) (lv' := [(7, .inl 0), (6, .inl (24 * ((24 * (I 0 6)) + z580))), (5, .inl z580), (4, .inl 0), (2, .inr (.inl (J508 0 75))), (1, .inl (I 0 6)), (0, .inr (.inr (some 0)))]) (st' := []) (h' := gr_h I583 J584) (C := (((True ∧ True) ∧ True) ∧ True)) rfl ⟨⟨⟨trivial, trivial⟩, trivial⟩, trivial⟩ ?_
            refine gv_pick [6, 5, 4, 3, 2, 1, 0] rfl ?_
            exact L130 _ I583 J584 (I 0 6) (J508 0 75) 0 z580 ((24 * ((24 * (I 0 6)) + z580))) 0 (Nat.lt_succ_self _) hI583 FI583 FJ584 ⟨by omega, by omega⟩ ⟨by omega, by omega⟩ ⟨by omega, by omega⟩ ⟨by omega, by omega⟩ ⟨by omega, by omega⟩ (by omega) (by omega) (by omega) (by omega) (by omega) (by omega) (by omega) (by omega) (by omega) (by omega) (by omega) (by omega)
          · refine gv_run 2 true hD (pc' := 107) (lv' := [(5, .inl z580), (4, .inl 0), (2, .inr (.inl (J508 0 75))), (1, .inl (I 0 6)), (0, .inr (.inr (some 0)))]) (st' := [.inl 5, .inr (.inr (some 0))]) (h' := gr_h I561 J562) (C := ((True ∧ True) ∧ True)) rfl ⟨⟨trivial, trivial⟩, trivial⟩ ?_
            obtain ⟨r598, h598, E598, P598⟩ := r_no_ (ws0 := ws0) (tb := tb) hws htb ext I561 J562 hI561 5 ⟨by omega, by omega⟩ 
            obtain ⟨I599, J600, rfl, hI599, g598, k598, ⟨z598, rfl, q598⟩⟩ := P598
            have FI599 := gr_frt FI561 g598 rfl rfl
            have FJ600 := gr_fjt FJ562 k598 rfl rfl
            have t601 := g598 0 71 rfl
            have t602 := g598 0 72 rfl
            have t603 := g598 0 73 rfl
            have t604 := g598 0 69 rfl
            have t605 := g598 0 6 rfl
            have t606 := g598 0 59 rfl
            have t607 := g598 0 42 rfl
            have t608 := g598 17 (Int.toNat ((I 0 6))) rfl
            have t609 := g598 65 (Int.toNat z580) rfl
            have f610 := (show 0 ≤ I599 0 71 ∧ I599 0 71 ≤ 5 from (hI599 0 71).1)
            have f611 := (show 0 ≤ I599 0 72 ∧ I599 0 72 ≤ 1000 from (hI599 0 72).1)
            have f612 := (show 0 ≤ I599 0 73 ∧ I599 0 73 ≤ 1001 from (hI599 0 73).1)
            have f613 := (show 0 ≤ I599 0 69 ∧ I599 0 69 ≤ 1000 from (hI599 0 69).1)
            have f614 := (show (-1) ≤ I599 0 6 ∧ I599 0 6 ≤ 7 from (hI599 0 6).1)
            have f615 := (show 0 ≤ I599 0 59 ∧ I599 0 59 ≤ 2000 from (hI599 0 59).1)
            have f616 := (show 0 ≤ I599 0 42 ∧ I599 0 42 ≤ 2000 from (hI599 0 42).1)
            refine gv_callV hD rfl (As := [.inl 5]) (st := []) rfl (by decide) rfl rfl (gr_lV hws rfl) (Nat.le_of_ble_eq_true rfl) (gz_Ev_mono (d := 2) (by decide) E598) ?_
            show gv_X _ _ (110, [(5, .inl z580), (4, .inl 0), (2, .inr (.inl (J508 0 75))), (1, .inl (I 0 6)), (0, .inr (.inr (some 0)))], [.inl z598], gr_sh ++ ext, gr_h I599 J600)
            exact gv_zret hD rfl (by omega) ⟨I599, J600, rfl, hI599, FI599, FJ600, ⟨_, rfl, by omega, by omega, by omega, by omega, by omega, by omega, by omega, by omega, by omega, by omega, by omega, by omega⟩⟩
        · refine gv_run 1 true hD (pc' := 76) (lv' := [(4, .inl 0), (2, .inr (.inl (J508 0 75))), (1, .inl (I 0 6)), (0, .inr (.inr (some 0)))]) (st' := [.inl 0]) (h' := gr_h I561 J562) (C := (True ∧ True)) rfl ⟨trivial, trivial⟩ ?_
          exact gv_zret hD rfl (by omega) ⟨I561, J562, rfl, hI561, FI561, FJ562, ⟨_, rfl, by omega, by omega, by omega, by omega, by omega, by omega, by omega, by omega, by omega, by omega, by omega, by omega⟩⟩
    · refine gv_run 2 true hD (pc' := 42) (lv' := [(2, .inr (.inl (J508 0 75))), (1, .inl (I 0 6)), (0, .inr (.inr (some 0)))]) (st' := [.inl 4, .inr (.inr (some 0))]) (h' := gr_h I507 J508) (C := ((True ∧ True) ∧ True)) rfl ⟨⟨trivial, trivial⟩, trivial⟩ ?_
      obtain ⟨r617, h617, E617, P617⟩ := r_no_ (ws0 := ws0) (tb := tb) hws htb ext I507 J508 hI507 4 ⟨by omega, by omega⟩ 
      obtain ⟨I618, J619, rfl, hI618, g617, k617, ⟨z617, rfl, q617⟩⟩ := P617
      have FI618 := gr_frt FI507 g617 rfl rfl
      have FJ619 := gr_fjt FJ508 k617 rfl rfl
      have t620 := g617 0 71 rfl
      have t621 := g617 0 72 rfl
      have t622 := g617 0 73 rfl
      have t623 := g617 0 69 rfl
      have t624 := g617 0 6 rfl
      have t625 := g617 0 59 rfl
      have t626 := g617 0 42 rfl
      have t627 := g617 17 (Int.toNat ((I 0 6))) rfl
      have f628 := (show 0 ≤ I618 0 71 ∧ I618 0 71 ≤ 5 from (hI618 0 71).1)
      have f629 := (show 0 ≤ I618 0 72 ∧ I618 0 72 ≤ 1000 from (hI618 0 72).1)
      have f630 := (show 0 ≤ I618 0 73 ∧ I618 0 73 ≤ 1001 from (hI618 0 73).1)
      have f631 := (show 0 ≤ I618 0 69 ∧ I618 0 69 ≤ 1000 from (hI618 0 69).1)
      have f632 := (show (-1) ≤ I618 0 6 ∧ I618 0 6 ≤ 7 from (hI618 0 6).1)
      have f633 := (show 0 ≤ I618 0 59 ∧ I618 0 59 ≤ 2000 from (hI618 0 59).1)
      have f634 := (show 0 ≤ I618 0 42 ∧ I618 0 42 ≤ 2000 from (hI618 0 42).1)
      refine gv_callV hD rfl (As := [.inl 4]) (st := []) rfl (by decide) rfl rfl (gr_lV hws rfl) (Nat.le_of_ble_eq_true rfl) (gz_Ev_mono (d := 2) (by decide) E617) ?_
      show gv_X _ _ (45, [(2, .inr (.inl (J508 0 75))), (1, .inl (I 0 6)), (0, .inr (.inr (some 0)))], [.inl z617], gr_sh ++ ext, gr_h I618 J619)
      exact gv_zret hD rfl (by omega) ⟨I618, J619, rfl, hI618, FI618, FJ619, ⟨_, rfl, by omega, by omega, by omega, by omega, by omega, by omega, by omega, by omega, by omega, by omega, by omega, by omega⟩⟩
  · refine gv_run 1 true hD (pc' := 13) (lv' := [(1, .inl (I 0 6)), (0, .inr (.inr (some 0)))]) (st' := [.inl 0]) (h' := gr_h I507 J508) (C := (True ∧ True)) rfl ⟨trivial, trivial⟩ ?_
    exact gv_zret hD rfl (by omega) ⟨I507, J508, rfl, hI507, FI507, FJ508, ⟨_, rfl, by omega, by omega, by omega, by omega, by omega, by omega, by omega, by omega, by omega, by omega, by omega, by omega⟩⟩
