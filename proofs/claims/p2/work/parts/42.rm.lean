set_option maxHeartbeats 4000000 in
set_option maxRecDepth 100000 in
theorem r_fun {ws0 : List Cond} {tb : String → gz_T} (hws : ∀ w ∈ gr_ws, w ∈ ws0) (htb : tb RX13 = gr_T) (ext : gz_Sh) (I : gr_I) (J : gr_J) (hI : gr_Inv I)   (x0 : I 0 71 = 5 ∨ I 0 73 ≤ I 0 69) (x1 : I 0 72 ≤ I 0 69) (x2 : I 0 71 = 0 ∨ (I 0 72 < I 0 73 ∧ I 0 72 < I 0 69)) (x3 : I 0 71 = 3 → 2 ≤ I 0 73 - I 0 72 ∧ I 0 73 - I 0 72 ≤ 14) (x4 : I 0 72 ≤ I 0 73) : ∃ r h', gz_Ev ws0 tb 12 (yX13_fun, cX13_fun, 6, (some .boolean)) [.inr (.inr (some 0))] (gr_sh ++ ext) (gr_h I J) r (gr_sh ++ ext) h' 0 0 ∧ (∃ (I' : gr_I) (J' : gr_J), h' = gr_h I' J' ∧ gr_Inv I' ∧ gr_fr [3, 71, 72, 73, 74, 75, 76, 77, 101] [3, 6, 7, 8, 9, 10, 61] I I' ∧ gr_fj [3, 71, 72, 73, 74, 75, 76, 77, 101] [3, 6, 7, 8, 9, 10, 61] J J' ∧ (∃ z : Int, r = some (.inl z) ∧ 0 ≤ z ∧ z ≤ 1 ∧ (I' 0 71 = 5 ∨ I' 0 73 ≤ I' 0 69) ∧ (I' 0 72 ≤ I' 0 69) ∧ (I' 0 71 = 0 ∨ (I' 0 72 < I' 0 73 ∧ I' 0 72 < I' 0 69)) ∧ (I' 0 71 = 3 → 2 ≤ I' 0 73 - I' 0 72 ∧ I' 0 73 - I' 0 72 ≤ 14) ∧ (I' 0 72 ≤ I' 0 73) ∧ (I' 0 69 = I 0 69) ∧ (I 0 73 ≤ I' 0 73) ∧ (I 0 72 ≤ I' 0 72))) := by
  have FI : gr_fr [3, 71, 72, 73, 74, 75, 76, 77, 101] [3, 6, 7, 8, 9, 10, 61] I I := fun _ _ _ => rfl
  have FJ : gr_fj [3, 71, 72, 73, 74, 75, 76, 77, 101] [3, 6, 7, 8, 9, 10, 61] J J := fun _ _ _ => rfl
  have hD : gv_D (gr_E ws0 tb 11 (yX13_fun, cX13_fun, 6, (some .boolean)) kX13_fun) := gq_ok oX13_fun
  refine gr_ev (d := 11) (l := kX13_fun) (Po := fun r h' => (∃ (I' : gr_I) (J' : gr_J), h' = gr_h I' J' ∧ gr_Inv I' ∧ gr_fr [3, 71, 72, 73, 74, 75, 76, 77, 101] [3, 6, 7, 8, 9, 10, 61] I I' ∧ gr_fj [3, 71, 72, 73, 74, 75, 76, 77, 101] [3, 6, 7, 8, 9, 10, 61] J J' ∧ (∃ z : Int, r = some (.inl z) ∧ 0 ≤ z ∧ z ≤ 1 ∧ (I' 0 71 = 5 ∨ I' 0 73 ≤ I' 0 69) ∧ (I' 0 72 ≤ I' 0 69) ∧ (I' 0 71 = 0 ∨ (I' 0 72 < I' 0 73 ∧ I' 0 72 < I' 0 69)) ∧ (I' 0 71 = 3 → 2 ≤ I' 0 73 - I' 0 72 ∧ I' 0 73 - I' 0 72 ≤ 14) ∧ (I' 0 72 ≤ I' 0 73) ∧ (I' 0 69 = I 0 69) ∧ (I 0 73 ≤ I' 0 73) ∧ (I 0 72 ≤ I' 0 72)))) htb rfl (Nat.le_of_ble_eq_true rfl) ?_
  have f1 := (show 0 ≤ I 0 71 ∧ I 0 71 ≤ 5 from (hI 0 71).1)
  have f2 := (show 0 ≤ I 0 72 ∧ I 0 72 ≤ 1000 from (hI 0 72).1)
  have f3 := (show 0 ≤ I 0 73 ∧ I 0 73 ≤ 1001 from (hI 0 73).1)
  have f4 := (show 0 ≤ I 0 69 ∧ I 0 69 ≤ 1000 from (hI 0 69).1)
  have f5 := (show 0 ≤ I 0 3 ∧ I 0 3 ≤ 96 from (hI 0 3).1)
  have L53 : ∀ (n : Nat) (I6 : gr_I) (J7 : gr_J) (v1_8 : Int64) (v3_8 : Int), (1001 - I6 0 72).toNat < n → gr_Inv I6 → gr_fr [3, 71, 72, 73, 74, 75, 76, 77, 101] [3, 6, 7, 8, 9, 10, 61] I I6 → gr_fj [3, 71, 72, 73, 74, 75, 76, 77, 101] [3, 6, 7, 8, 9, 10, 61] J J7 → 0 ≤ v3_8 ∧ v3_8 ≤ 4 → (I6 0 71 = 5 ∨ I6 0 73 ≤ I6 0 69) → (I6 0 72 ≤ I6 0 69) → (I6 0 71 = 0 ∨ (I6 0 72 < I6 0 73 ∧ I6 0 72 < I6 0 69)) → (I6 0 71 = 3 → 2 ≤ I6 0 73 - I6 0 72 ∧ I6 0 73 - I6 0 72 ≤ 14) → (I6 0 72 ≤ I6 0 73) → (I6 0 69 = I 0 69) → (I 0 73 ≤ I6 0 73) → (I 0 72 ≤ I6 0 72) → gv_X (gr_E ws0 tb 11 (yX13_fun, cX13_fun, 6, (some .boolean)) kX13_fun) (gv_Q cX13_fun (some .boolean) (gr_sh ++ ext) (fun r h' => (∃ (I' : gr_I) (J' : gr_J), h' = gr_h I' J' ∧ gr_Inv I' ∧ gr_fr [3, 71, 72, 73, 74, 75, 76, 77, 101] [3, 6, 7, 8, 9, 10, 61] I I' ∧ gr_fj [3, 71, 72, 73, 74, 75, 76, 77, 101] [3, 6, 7, 8, 9, 10, 61] J J' ∧ (∃ z : Int, r = some (.inl z) ∧ 0 ≤ z ∧ z ≤ 1 ∧ (I' 0 71 = 5 ∨ I' 0 73 ≤ I' 0 69) ∧ (I' 0 72 ≤ I' 0 69) ∧ (I' 0 71 = 0 ∨ (I' 0 72 < I' 0 73 ∧ I' 0 72 < I' 0 69)) ∧ (I' 0 71 = 3 → 2 ≤ I' 0 73 - I' 0 72 ∧ I' 0 73 - I' 0 72 ≤ 14) ∧ (I' 0 72 ≤ I' 0 73) ∧ (I' 0 69 = I 0 69) ∧ (I 0 73 ≤ I' 0 73) ∧ (I 0 72 ≤ I' 0 72))))) (53, [(0, .inr (.inr (some 0))), (1, .inr (.inl v1_8)), (3, .inl v3_8)], [], gr_sh ++ ext, gr_h I6 J7) := by
    intro n
    induction n with
    | zero => intro I6 J7 v1_8 v3_8 hn; omega
    | succ n ih53 =>
      intro I6 J7 v1_8 v3_8 hn hI6 FI6 FJ7 hv3_8 e0_8 e1_8 e2_8 e3_8 e4_8 e5_8 e6_8 e7_8
      have f9 := (show 0 ≤ I6 0 71 ∧ I6 0 71 ≤ 5 from (hI6 0 71).1)
      have f10 := (show 0 ≤ I6 0 72 ∧ I6 0 72 ≤ 1000 from (hI6 0 72).1)
      have f11 := (show 0 ≤ I6 0 73 ∧ I6 0 73 ≤ 1001 from (hI6 0 73).1)
      have f12 := (show 0 ≤ I6 0 69 ∧ I6 0 69 ≤ 1000 from (hI6 0 69).1)
      have f13 := (show 0 ≤ I6 0 3 ∧ I6 0 3 ≤ 96 from (hI6 0 3).1)
      have L89 : (I6 0 71 = 5 ∨ I6 0 73 ≤ I6 0 69) → (I6 0 72 ≤ I6 0 69) → (I6 0 71 = 0 ∨ (I6 0 72 < I6 0 73 ∧ I6 0 72 < I6 0 69)) → (I6 0 71 = 3 → 2 ≤ I6 0 73 - I6 0 72 ∧ I6 0 73 - I6 0 72 ≤ 14) → (I6 0 72 ≤ I6 0 73) → (I6 0 69 = I 0 69) → (I 0 73 ≤ I6 0 73) → (I 0 72 ≤ I6 0 72) → gv_X (gr_E ws0 tb 11 (yX13_fun, cX13_fun, 6, (some .boolean)) kX13_fun) (gv_Q cX13_fun (some .boolean) (gr_sh ++ ext) (fun r h' => (∃ (I' : gr_I) (J' : gr_J), h' = gr_h I' J' ∧ gr_Inv I' ∧ gr_fr [3, 71, 72, 73, 74, 75, 76, 77, 101] [3, 6, 7, 8, 9, 10, 61] I I' ∧ gr_fj [3, 71, 72, 73, 74, 75, 76, 77, 101] [3, 6, 7, 8, 9, 10, 61] J J' ∧ (∃ z : Int, r = some (.inl z) ∧ 0 ≤ z ∧ z ≤ 1 ∧ (I' 0 71 = 5 ∨ I' 0 73 ≤ I' 0 69) ∧ (I' 0 72 ≤ I' 0 69) ∧ (I' 0 71 = 0 ∨ (I' 0 72 < I' 0 73 ∧ I' 0 72 < I' 0 69)) ∧ (I' 0 71 = 3 → 2 ≤ I' 0 73 - I' 0 72 ∧ I' 0 73 - I' 0 72 ≤ 14) ∧ (I' 0 72 ≤ I' 0 73) ∧ (I' 0 69 = I 0 69) ∧ (I 0 73 ≤ I' 0 73) ∧ (I 0 72 ≤ I' 0 72))))) (89, [(0, .inr (.inr (some 0)))], [], gr_sh ++ ext, gr_h I6 J7) := by
        intro e0_14 e1_14 e2_14 e3_14 e4_14 e5_14 e6_14 e7_14
        have f15 := (show 0 ≤ I6 0 71 ∧ I6 0 71 ≤ 5 from (hI6 0 71).1)
        have f16 := (show 0 ≤ I6 0 72 ∧ I6 0 72 ≤ 1000 from (hI6 0 72).1)
        have f17 := (show 0 ≤ I6 0 73 ∧ I6 0 73 ≤ 1001 from (hI6 0 73).1)
        have f18 := (show 0 ≤ I6 0 69 ∧ I6 0 69 ≤ 1000 from (hI6 0 69).1)
        have f19 := (show 0 ≤ I6 0 3 ∧ I6 0 3 ≤ 96 from (hI6 0 3).1)
        refine gv_run 2 true hD (pc' := 91) (lv' := [(0, .inr (.inr (some 0)))]) (st' := [.inl 5, .inr (.inr (some 0))]) (h' := gr_h I6 J7) (C := ((True ∧ True) ∧ True)) rfl ⟨⟨trivial, trivial⟩, trivial⟩ ?_
        obtain ⟨r20, h20, E20, P20⟩ := r_no_ (ws0 := ws0) (tb := tb) hws htb ext I6 J7 hI6 5 ⟨by omega, by omega⟩ 
        obtain ⟨I21, J22, rfl, hI21, g20, k20, ⟨z20, rfl, q20⟩⟩ := P20
        have FI21 := gr_frt FI6 g20 rfl rfl
        have FJ22 := gr_fjt FJ7 k20 rfl rfl
        have t23 := g20 0 71 rfl
        have t24 := g20 0 72 rfl
        have t25 := g20 0 73 rfl
        have t26 := g20 0 69 rfl
        have t27 := g20 0 3 rfl
        have f28 := (show 0 ≤ I21 0 71 ∧ I21 0 71 ≤ 5 from (hI21 0 71).1)
        have f29 := (show 0 ≤ I21 0 72 ∧ I21 0 72 ≤ 1000 from (hI21 0 72).1)
        have f30 := (show 0 ≤ I21 0 73 ∧ I21 0 73 ≤ 1001 from (hI21 0 73).1)
        have f31 := (show 0 ≤ I21 0 69 ∧ I21 0 69 ≤ 1000 from (hI21 0 69).1)
        have f32 := (show 0 ≤ I21 0 3 ∧ I21 0 3 ≤ 96 from (hI21 0 3).1)
        refine gv_callV hD rfl (As := [.inl 5]) (st := []) rfl (by decide) rfl rfl (gr_lV hws rfl) (Nat.le_of_ble_eq_true rfl) (gz_Ev_mono (d := 2) (by decide) E20) ?_
        show gv_X _ _ (94, [(0, .inr (.inr (some 0)))], [.inl z20], gr_sh ++ ext, gr_h I21 J22)
        exact gv_zret hD rfl (by omega) ⟨I21, J22, rfl, hI21, FI21, FJ22, ⟨_, rfl, by omega, by omega, by omega, by omega, by omega, by omega, by omega, by omega, by omega, by omega⟩⟩
      have L129 : ∀ (I33 : gr_I) (J34 : gr_J) , gr_Inv I33 → gr_fr [3, 71, 72, 73, 74, 75, 76, 77, 101] [3, 6, 7, 8, 9, 10, 61] I I33 → gr_fj [3, 71, 72, 73, 74, 75, 76, 77, 101] [3, 6, 7, 8, 9, 10, 61] J J34 → (I33 0 71 = 5 ∨ I33 0 73 ≤ I33 0 69) → (I33 0 72 ≤ I33 0 69) → (I33 0 71 = 0 ∨ (I33 0 72 < I33 0 73 ∧ I33 0 72 < I33 0 69)) → (I33 0 71 = 3 → 2 ≤ I33 0 73 - I33 0 72 ∧ I33 0 73 - I33 0 72 ≤ 14) → (I33 0 72 ≤ I33 0 73) → (I33 0 69 = I 0 69) → (I 0 73 ≤ I33 0 73) → (I 0 72 ≤ I33 0 72) → gv_X (gr_E ws0 tb 11 (yX13_fun, cX13_fun, 6, (some .boolean)) kX13_fun) (gv_Q cX13_fun (some .boolean) (gr_sh ++ ext) (fun r h' => (∃ (I' : gr_I) (J' : gr_J), h' = gr_h I' J' ∧ gr_Inv I' ∧ gr_fr [3, 71, 72, 73, 74, 75, 76, 77, 101] [3, 6, 7, 8, 9, 10, 61] I I' ∧ gr_fj [3, 71, 72, 73, 74, 75, 76, 77, 101] [3, 6, 7, 8, 9, 10, 61] J J' ∧ (∃ z : Int, r = some (.inl z) ∧ 0 ≤ z ∧ z ≤ 1 ∧ (I' 0 71 = 5 ∨ I' 0 73 ≤ I' 0 69) ∧ (I' 0 72 ≤ I' 0 69) ∧ (I' 0 71 = 0 ∨ (I' 0 72 < I' 0 73 ∧ I' 0 72 < I' 0 69)) ∧ (I' 0 71 = 3 → 2 ≤ I' 0 73 - I' 0 72 ∧ I' 0 73 - I' 0 72 ≤ 14) ∧ (I' 0 72 ≤ I' 0 73) ∧ (I' 0 69 = I 0 69) ∧ (I 0 73 ≤ I' 0 73) ∧ (I 0 72 ≤ I' 0 72))))) (129, [], [], gr_sh ++ ext, gr_h I33 J34) := by
        intro I33 J34 hI33 FI33 FJ34 e0_35 e1_35 e2_35 e3_35 e4_35 e5_35 e6_35 e7_35
        have f36 := (show 0 ≤ I33 0 71 ∧ I33 0 71 ≤ 5 from (hI33 0 71).1)
        have f37 := (show 0 ≤ I33 0 72 ∧ I33 0 72 ≤ 1000 from (hI33 0 72).1)
        have f38 := (show 0 ≤ I33 0 73 ∧ I33 0 73 ≤ 1001 from (hI33 0 73).1)
        have f39 := (show 0 ≤ I33 0 69 ∧ I33 0 69 ≤ 1000 from (hI33 0 69).1)
        have f40 := (show 0 ≤ I33 0 3 ∧ I33 0 3 ≤ 96 from (hI33 0 3).1)
        refine gv_run 1 true hD (pc' := 130) (lv' := []) (st' := [.inl 0]) (h' := gr_h I33 J34) (C := (True ∧ True)) rfl ⟨trivial, trivial⟩ ?_
        exact gv_zret hD rfl (by omega) ⟨I33, J34, rfl, hI33, FI33, FJ34, ⟨_, rfl, by omega, by omega, by omega, by omega, by omega, by omega, by omega, by omega, by omega, by omega⟩⟩
      have L192 : ∀ (I41 : gr_I) (J42 : gr_J) , gr_Inv I41 → gr_fr [3, 71, 72, 73, 74, 75, 76, 77, 101] [3, 6, 7, 8, 9, 10, 61] I I41 → gr_fj [3, 71, 72, 73, 74, 75, 76, 77, 101] [3, 6, 7, 8, 9, 10, 61] J J42 → (I41 0 71 = 5 ∨ I41 0 73 ≤ I41 0 69) → (I41 0 72 ≤ I41 0 69) → (I41 0 71 = 0 ∨ (I41 0 72 < I41 0 73 ∧ I41 0 72 < I41 0 69)) → (I41 0 71 = 3 → 2 ≤ I41 0 73 - I41 0 72 ∧ I41 0 73 - I41 0 72 ≤ 14) → (I41 0 72 ≤ I41 0 73) → (I41 0 69 = I 0 69) → (I 0 73 ≤ I41 0 73) → (I 0 72 ≤ I41 0 72) → gv_X (gr_E ws0 tb 11 (yX13_fun, cX13_fun, 6, (some .boolean)) kX13_fun) (gv_Q cX13_fun (some .boolean) (gr_sh ++ ext) (fun r h' => (∃ (I' : gr_I) (J' : gr_J), h' = gr_h I' J' ∧ gr_Inv I' ∧ gr_fr [3, 71, 72, 73, 74, 75, 76, 77, 101] [3, 6, 7, 8, 9, 10, 61] I I' ∧ gr_fj [3, 71, 72, 73, 74, 75, 76, 77, 101] [3, 6, 7, 8, 9, 10, 61] J J' ∧ (∃ z : Int, r = some (.inl z) ∧ 0 ≤ z ∧ z ≤ 1 ∧ (I' 0 71 = 5 ∨ I' 0 73 ≤ I' 0 69) ∧ (I' 0 72 ≤ I' 0 69) ∧ (I' 0 71 = 0 ∨ (I' 0 72 < I' 0 73 ∧ I' 0 72 < I' 0 69)) ∧ (I' 0 71 = 3 → 2 ≤ I' 0 73 - I' 0 72 ∧ I' 0 73 - I' 0 72 ≤ 14) ∧ (I' 0 72 ≤ I' 0 73) ∧ (I' 0 69 = I 0 69) ∧ (I 0 73 ≤ I' 0 73) ∧ (I 0 72 ≤ I' 0 72))))) (192, [], [], gr_sh ++ ext, gr_h I41 J42) := by
        intro I41 J42 hI41 FI41 FJ42 e0_43 e1_43 e2_43 e3_43 e4_43 e5_43 e6_43 e7_43
        have f44 := (show 0 ≤ I41 0 71 ∧ I41 0 71 ≤ 5 from (hI41 0 71).1)
        have f45 := (show 0 ≤ I41 0 72 ∧ I41 0 72 ≤ 1000 from (hI41 0 72).1)
        have f46 := (show 0 ≤ I41 0 73 ∧ I41 0 73 ≤ 1001 from (hI41 0 73).1)
        have f47 := (show 0 ≤ I41 0 69 ∧ I41 0 69 ≤ 1000 from (hI41 0 69).1)
        have f48 := (show 0 ≤ I41 0 3 ∧ I41 0 3 ≤ 96 from (hI41 0 3).1)
        refine gv_run 1 true hD (pc' := 193) (lv' := []) (st' := [.inl 0]) (h' := gr_h I41 J42) (C := (True ∧ True)) rfl ⟨trivial, trivial⟩ ?_
        exact gv_zret hD rfl (by omega) ⟨I41, J42, rfl, hI41, FI41, FJ42, ⟨_, rfl, by omega, by omega, by omega, by omega, by omega, by omega, by omega, by omega, by omega, by omega⟩⟩
      have L186 : ∀ (I49 : gr_I) (J50 : gr_J) (v4_51 : Int) (s1_51 : Int), gr_Inv I49 → gr_fr [3, 71, 72, 73, 74, 75, 76, 77, 101] [3, 6, 7, 8, 9, 10, 61] I I49 → gr_fj [3, 71, 72, 73, 74, 75, 76, 77, 101] [3, 6, 7, 8, 9, 10, 61] J J50 → 0 ≤ v3_8 ∧ v3_8 ≤ 4 → 0 ≤ v4_51 ∧ v4_51 ≤ 31 → 0 ≤ s1_51 ∧ s1_51 ≤ 1 → (s1_51 = 0 ∨ I49 0 3 ≤ 95) → (I49 0 71 = 5 ∨ I49 0 73 ≤ I49 0 69) → (I49 0 72 ≤ I49 0 69) → (I49 0 71 = 0 ∨ (I49 0 72 < I49 0 73 ∧ I49 0 72 < I49 0 69)) → (I49 0 71 = 3 → 2 ≤ I49 0 73 - I49 0 72 ∧ I49 0 73 - I49 0 72 ≤ 14) → (I49 0 72 ≤ I49 0 73) → (I49 0 69 = I 0 69) → (I 0 73 ≤ I49 0 73) → (I 0 72 ≤ I49 0 72) → gv_X (gr_E ws0 tb 11 (yX13_fun, cX13_fun, 6, (some .boolean)) kX13_fun) (gv_Q cX13_fun (some .boolean) (gr_sh ++ ext) (fun r h' => (∃ (I' : gr_I) (J' : gr_J), h' = gr_h I' J' ∧ gr_Inv I' ∧ gr_fr [3, 71, 72, 73, 74, 75, 76, 77, 101] [3, 6, 7, 8, 9, 10, 61] I I' ∧ gr_fj [3, 71, 72, 73, 74, 75, 76, 77, 101] [3, 6, 7, 8, 9, 10, 61] J J' ∧ (∃ z : Int, r = some (.inl z) ∧ 0 ≤ z ∧ z ≤ 1 ∧ (I' 0 71 = 5 ∨ I' 0 73 ≤ I' 0 69) ∧ (I' 0 72 ≤ I' 0 69) ∧ (I' 0 71 = 0 ∨ (I' 0 72 < I' 0 73 ∧ I' 0 72 < I' 0 69)) ∧ (I' 0 71 = 3 → 2 ≤ I' 0 73 - I' 0 72 ∧ I' 0 73 - I' 0 72 ≤ 14) ∧ (I' 0 72 ≤ I' 0 73) ∧ (I' 0 69 = I 0 69) ∧ (I 0 73 ≤ I' 0 73) ∧ (I 0 72 ≤ I' 0 72))))) (186, [(0, .inr (.inr (some 0))), (1, .inr (.inl v1_8)), (3, .inl v3_8), (4, .inl v4_51)], [.inl s1_51, .inr (.inr (some 0))], gr_sh ++ ext, gr_h I49 J50) := by
        intro I49 J50 v4_51 s1_51 hI49 FI49 FJ50 hv3_8_51 hv4_51 hs1_51 e0_51 e1_51 e2_51 e3_51 e4_51 e5_51 e6_51 e7_51 e8_51
        have f52 := (show 0 ≤ I49 0 71 ∧ I49 0 71 ≤ 5 from (hI49 0 71).1)
        have f53 := (show 0 ≤ I49 0 72 ∧ I49 0 72 ≤ 1000 from (hI49 0 72).1)
        have f54 := (show 0 ≤ I49 0 73 ∧ I49 0 73 ≤ 1001 from (hI49 0 73).1)
        have f55 := (show 0 ≤ I49 0 69 ∧ I49 0 69 ≤ 1000 from (hI49 0 69).1)
        have f56 := (show 0 ≤ I49 0 3 ∧ I49 0 3 ≤ 96 from (hI49 0 3).1)
        have L217 : ∀ (n : Nat) (I57 : gr_I) (J58 : gr_J) (v5_59 : Int), (5 - v5_59).toNat < n → gr_Inv I57 → gr_fr [3, 71, 72, 73, 74, 75, 76, 77, 101] [3, 6, 7, 8, 9, 10, 61] I I57 → gr_fj [3, 71, 72, 73, 74, 75, 76, 77, 101] [3, 6, 7, 8, 9, 10, 61] J J58 → 0 ≤ v3_8 ∧ v3_8 ≤ 4 → 0 ≤ v4_51 ∧ v4_51 ≤ 31 → 0 ≤ v5_59 ∧ v5_59 ≤ 4 → (I57 0 3 ≤ 95) → (I57 0 71 = 5 ∨ I57 0 73 ≤ I57 0 69) → (I57 0 72 ≤ I57 0 69) → (I57 0 71 = 0 ∨ (I57 0 72 < I57 0 73 ∧ I57 0 72 < I57 0 69)) → (I57 0 71 = 3 → 2 ≤ I57 0 73 - I57 0 72 ∧ I57 0 73 - I57 0 72 ≤ 14) → (I57 0 72 ≤ I57 0 73) → (I57 0 69 = I 0 69) → (I 0 73 ≤ I57 0 73) → (I 0 72 ≤ I57 0 72) → gv_X (gr_E ws0 tb 11 (yX13_fun, cX13_fun, 6, (some .boolean)) kX13_fun) (gv_Q cX13_fun (some .boolean) (gr_sh ++ ext) (fun r h' => (∃ (I' : gr_I) (J' : gr_J), h' = gr_h I' J' ∧ gr_Inv I' ∧ gr_fr [3, 71, 72, 73, 74, 75, 76, 77, 101] [3, 6, 7, 8, 9, 10, 61] I I' ∧ gr_fj [3, 71, 72, 73, 74, 75, 76, 77, 101] [3, 6, 7, 8, 9, 10, 61] J J' ∧ (∃ z : Int, r = some (.inl z) ∧ 0 ≤ z ∧ z ≤ 1 ∧ (I' 0 71 = 5 ∨ I' 0 73 ≤ I' 0 69) ∧ (I' 0 72 ≤ I' 0 69) ∧ (I' 0 71 = 0 ∨ (I' 0 72 < I' 0 73 ∧ I' 0 72 < I' 0 69)) ∧ (I' 0 71 = 3 → 2 ≤ I' 0 73 - I' 0 72 ∧ I' 0 73 - I' 0 72 ≤ 14) ∧ (I' 0 72 ≤ I' 0 73) ∧ (I' 0 69 = I 0 69) ∧ (I 0 73 ≤ I' 0 73) ∧ (I 0 72 ≤ I' 0 72))))) (217, [(0, .inr (.inr (some 0))), (3, .inl v3_8), (4, .inl v4_51), (5, .inl v5_59)], [], gr_sh ++ ext, gr_h I57 J58) := by
          intro n
          induction n with
          | zero => intro I57 J58 v5_59 hn; omega
          | succ n ih217 =>
            intro I57 J58 v5_59 hn hI57 FI57 FJ58 hv3_8_59 hv4_51_59 hv5_59 e0_59 e1_59 e2_59 e3_59 e4_59 e5_59 e6_59 e7_59 e8_59
            have f60 := (show 0 ≤ I57 0 71 ∧ I57 0 71 ≤ 5 from (hI57 0 71).1)
            have f61 := (show 0 ≤ I57 0 72 ∧ I57 0 72 ≤ 1000 from (hI57 0 72).1)
            have f62 := (show 0 ≤ I57 0 73 ∧ I57 0 73 ≤ 1001 from (hI57 0 73).1)
            have f63 := (show 0 ≤ I57 0 69 ∧ I57 0 69 ≤ 1000 from (hI57 0 69).1)
            have f64 := (show 0 ≤ I57 0 3 ∧ I57 0 3 ≤ 96 from (hI57 0 3).1)
            refine gv_run 2 true hD (pc' := 220) (lv' := [(0, .inr (.inr (some 0))), (3, .inl v3_8), (4, .inl v4_51), (5, .inl v5_59)]) (st' := [.inl v3_8, .inl v5_59]) (h' := gr_h I57 J58) (C := ((True ∧ True) ∧ True)) rfl ⟨⟨trivial, trivial⟩, trivial⟩ ?_
            refine gv_icmp_ge (t := 250) hD rfl rfl ⟨⟨by omega, by omega⟩, ⟨by omega, by omega⟩⟩ (fun c65 => ?_) (fun c65 => ?_)
            · have f66 := (show 0 ≤ I57 0 3 ∧ I57 0 3 ≤ 96 from (hI57 0 3).1)
              refine gv_run 5 true hD (pc' := 260) (lv' := [(0, .inr (.inr (some 0))), (3, .inl v3_8), (4, .inl v4_51), (5, .inl v5_59)]) (st' := [.inl v4_51, .inl (I57 0 3), .inr (.inr (some 8))]) (h' := gr_h I57 J58) (C := (((((True ∧ True) ∧ True) ∧ True) ∧ True) ∧ True)) rfl ⟨⟨⟨⟨⟨trivial, trivial⟩, trivial⟩, trivial⟩, trivial⟩, trivial⟩ ?_
              refine gv_run 1 true hD (pc' := 261) (lv' := [(0, .inr (.inr (some 0))), (3, .inl v3_8), (4, .inl v4_51), (5, .inl v5_59)]) (st' := []) (h' := gz_up (gr_h I57 J58) 8 (Int.toNat ((I57 0 3))) (.inl v4_51)) (C := (True ∧ (0 ≤ (I57 0 3) ∧ (I57 0 3) < ((96 : Nat) : Int)))) rfl ⟨trivial, ⟨by omega, by omega⟩⟩ ?_
              refine gr_st hI57 FI57 rfl rfl ⟨⟨by show 0 ≤ _; omega, by show _ ≤ 31; omega⟩, trivial⟩ (fun I67 hI67 FI67 q68 p68 => ?_)
              have t69 := p68 0 71 (fun q => absurd q.1 (by decide))
              have t70 := p68 0 72 (fun q => absurd q.1 (by decide))
              have t71 := p68 0 73 (fun q => absurd q.1 (by decide))
              have t72 := p68 0 69 (fun q => absurd q.1 (by decide))
              have t73 := p68 0 3 (fun q => absurd q.1 (by decide))
              have f74 := (show 0 ≤ I67 0 71 ∧ I67 0 71 ≤ 5 from (hI67 0 71).1)
              have f75 := (show 0 ≤ I67 0 72 ∧ I67 0 72 ≤ 1000 from (hI67 0 72).1)
              have f76 := (show 0 ≤ I67 0 73 ∧ I67 0 73 ≤ 1001 from (hI67 0 73).1)
              have f77 := (show 0 ≤ I67 0 69 ∧ I67 0 69 ≤ 1000 from (hI67 0 69).1)
              have f78 := (show 0 ≤ I67 0 3 ∧ I67 0 3 ≤ 96 from (hI67 0 3).1)
              have f79 := (show 0 ≤ I67 0 3 ∧ I67 0 3 ≤ 96 from (hI67 0 3).1)
              have f80 := (show 0 ≤ I67 0 101 ∧ I67 0 101 ≤ 10000 from (hI67 0 101).1)
              refine gv_run 6 true hD (pc' := 273) (lv' := [(0, .inr (.inr (some 0))), (3, .inl v3_8), (4, .inl v4_51), (5, .inl v5_59)]) (st' := [.inl (I67 0 101), .inl (I67 0 3), .inr (.inr (some 9))]) (h' := gr_h I67 J58) (C := ((((((True ∧ True) ∧ True) ∧ True) ∧ True) ∧ True) ∧ True)) rfl ⟨⟨⟨⟨⟨⟨trivial, trivial⟩, trivial⟩, trivial⟩, trivial⟩, trivial⟩, trivial⟩ ?_
              refine gv_run 1 true hD (pc' := 274) (lv' := [(0, .inr (.inr (some 0))), (3, .inl v3_8), (4, .inl v4_51), (5, .inl v5_59)]) (st' := []) (h' := gz_up (gr_h I67 J58) 9 (Int.toNat ((I67 0 3))) (.inl (I67 0 101))) (C := (True ∧ (0 ≤ (I67 0 3) ∧ (I67 0 3) < ((96 : Nat) : Int)))) rfl ⟨trivial, ⟨by omega, by omega⟩⟩ ?_
              refine gr_st hI67 FI67 rfl rfl ⟨⟨by show 0 ≤ _; omega, by show _ ≤ 10000; omega⟩, trivial⟩ (fun I81 hI81 FI81 q82 p82 => ?_)
              have t83 := p82 0 71 (fun q => absurd q.1 (by decide))
              have t84 := p82 0 72 (fun q => absurd q.1 (by decide))
              have t85 := p82 0 73 (fun q => absurd q.1 (by decide))
              have t86 := p82 0 69 (fun q => absurd q.1 (by decide))
              have t87 := p82 0 3 (fun q => absurd q.1 (by decide))
              have f88 := (show 0 ≤ I81 0 71 ∧ I81 0 71 ≤ 5 from (hI81 0 71).1)
              have f89 := (show 0 ≤ I81 0 72 ∧ I81 0 72 ≤ 1000 from (hI81 0 72).1)
              have f90 := (show 0 ≤ I81 0 73 ∧ I81 0 73 ≤ 1001 from (hI81 0 73).1)
              have f91 := (show 0 ≤ I81 0 69 ∧ I81 0 69 ≤ 1000 from (hI81 0 69).1)
              have f92 := (show 0 ≤ I81 0 3 ∧ I81 0 3 ≤ 96 from (hI81 0 3).1)
              have f93 := (show 0 ≤ I81 0 3 ∧ I81 0 3 ≤ 96 from (hI81 0 3).1)
              refine gv_run 7 true hD (pc' := 285) (lv' := [(0, .inr (.inr (some 0))), (3, .inl v3_8), (4, .inl v4_51), (5, .inl v5_59)]) (st' := [.inl 1, .inl (I81 0 3), .inr (.inr (some 0)), .inl (I81 0 3), .inr (.inr (some 10))]) (h' := gr_h I81 J58) (C := (((((((True ∧ True) ∧ True) ∧ True) ∧ True) ∧ True) ∧ True) ∧ True)) rfl ⟨⟨⟨⟨⟨⟨⟨trivial, trivial⟩, trivial⟩, trivial⟩, trivial⟩, trivial⟩, trivial⟩, trivial⟩ ?_
              refine gv_run 2 true hD (pc' := 289) (lv' := [(0, .inr (.inr (some 0))), (3, .inl v3_8), (4, .inl v4_51), (5, .inl v5_59)]) (st' := [.inl (I81 0 3), .inr (.inr (some 10))]) (h' := gz_up (gr_h I81 J58) 0 3 (.inl (((I81 0 3) + 1)))) (C := ((True ∧ True) ∧ True)) rfl ⟨⟨trivial, trivial⟩, trivial⟩ ?_
              refine gr_st hI81 FI81 rfl rfl ⟨⟨by show 0 ≤ _; omega, by show _ ≤ 96; omega⟩, trivial⟩ (fun I94 hI94 FI94 q95 p95 => ?_)
              have t96 := p95 0 71 (by decide)
              have t97 := p95 0 72 (by decide)
              have t98 := p95 0 73 (by decide)
              have t99 := p95 0 69 (by decide)
              have f100 := (show 0 ≤ I94 0 71 ∧ I94 0 71 ≤ 5 from (hI94 0 71).1)
              have f101 := (show 0 ≤ I94 0 72 ∧ I94 0 72 ≤ 1000 from (hI94 0 72).1)
              have f102 := (show 0 ≤ I94 0 73 ∧ I94 0 73 ≤ 1001 from (hI94 0 73).1)
              have f103 := (show 0 ≤ I94 0 69 ∧ I94 0 69 ≤ 1000 from (hI94 0 69).1)
              have f104 := (show 0 ≤ I94 0 3 ∧ I94 0 3 ≤ 96 from (hI94 0 3).1)
              refine gv_run 2 true hD (pc' := 291) (lv' := [(0, .inr (.inr (some 0))), (3, .inl v3_8), (4, .inl v4_51), (5, .inl v5_59)]) (st' := []) (h' := gz_up (gr_h I94 J58) 10 (Int.toNat ((I81 0 3))) (.inl (-1))) (C := ((True ∧ True) ∧ (0 ≤ (I81 0 3) ∧ (I81 0 3) < ((96 : Nat) : Int)))) rfl ⟨⟨trivial, trivial⟩, ⟨by omega, by omega⟩⟩ ?_
              refine gr_st hI94 FI94 rfl rfl ⟨⟨by show (-1) ≤ _; omega, by show _ ≤ 1999; omega⟩, trivial⟩ (fun I105 hI105 FI105 q106 p106 => ?_)
              have t107 := p106 0 71 (fun q => absurd q.1 (by decide))
              have t108 := p106 0 72 (fun q => absurd q.1 (by decide))
              have t109 := p106 0 73 (fun q => absurd q.1 (by decide))
              have t110 := p106 0 69 (fun q => absurd q.1 (by decide))
              have t111 := p106 0 3 (fun q => absurd q.1 (by decide))
              have f112 := (show 0 ≤ I105 0 71 ∧ I105 0 71 ≤ 5 from (hI105 0 71).1)
              have f113 := (show 0 ≤ I105 0 72 ∧ I105 0 72 ≤ 1000 from (hI105 0 72).1)
              have f114 := (show 0 ≤ I105 0 73 ∧ I105 0 73 ≤ 1001 from (hI105 0 73).1)
              have f115 := (show 0 ≤ I105 0 69 ∧ I105 0 69 ≤ 1000 from (hI105 0 69).1)
              have f116 := (show 0 ≤ I105 0 3 ∧ I105 0 3 ≤ 96 from (hI105 0 3).1)
              refine gv_run 1 true hD (pc' := 292) (lv' := [(0, .inr (.inr (some 0))), (3, .inl v3_8), (4, .inl v4_51), (5, .inl v5_59)]) (st' := [.inl 1]) (h' := gr_h I105 J58) (C := (True ∧ True)) rfl ⟨trivial, trivial⟩ ?_
              exact gv_zret hD rfl (by omega) ⟨I105, J58, rfl, hI105, FI105, FJ58, ⟨_, rfl, by omega, by omega, by omega, by omega, by omega, by omega, by omega, by omega, by omega, by omega⟩⟩
            · have f117 := (show 0 ≤ I57 0 3 ∧ I57 0 3 ≤ 96 from (hI57 0 3).1)
              refine gv_run 7 true hD (pc' := 235) (lv' := [(0, .inr (.inr (some 0))), (3, .inl v3_8), (4, .inl v4_51), (5, .inl v5_59)]) (st' := [.inl v5_59, .inl (4 * (I57 0 3)), .inr (.inr (some 7))]) (h' := gr_h I57 J58) (C := (((((((True ∧ True) ∧ True) ∧ True) ∧ True) ∧ True) ∧ True) ∧ True)) rfl ⟨⟨⟨⟨⟨⟨⟨trivial, trivial⟩, trivial⟩, trivial⟩, trivial⟩, trivial⟩, trivial⟩, trivial⟩ ?_
              have f118 := (show 0 ≤ I57 61 (Int.toNat v5_59) ∧ I57 61 (Int.toNat v5_59) ≤ 31 from (hI57 61 (Int.toNat v5_59)).1)
              refine gv_run 5 true hD (pc' := 243) (lv' := [(0, .inr (.inr (some 0))), (3, .inl v3_8), (4, .inl v4_51), (5, .inl v5_59)]) (st' := [.inl (I57 61 (Int.toNat v5_59)), .inl ((4 * (I57 0 3)) + v5_59), .inr (.inr (some 7))]) (h' := gr_h I57 J58) (C := (((((True ∧ True) ∧ True) ∧ True) ∧ True) ∧ (0 ≤ v5_59 ∧ v5_59 < ((4 : Nat) : Int)))) rfl ⟨⟨⟨⟨⟨trivial, trivial⟩, trivial⟩, trivial⟩, trivial⟩, ⟨by omega, by omega⟩⟩ ?_
              refine gv_run 1 true hD (pc' := 244) (lv' := [(0, .inr (.inr (some 0))), (3, .inl v3_8), (4, .inl v4_51), (5, .inl v5_59)]) (st' := []) (h' := gz_up (gr_h I57 J58) 7 (Int.toNat (((4 * (I57 0 3)) + v5_59))) (.inl ((I57 61 (Int.toNat v5_59))))) (C := (True ∧ (0 ≤ (((4 * (I57 0 3)) + v5_59)) ∧ (((4 * (I57 0 3)) + v5_59)) < ((384 : Nat) : Int)))) rfl ⟨trivial, ⟨by omega, by omega⟩⟩ ?_
              refine gr_st hI57 FI57 rfl rfl ⟨⟨by show 0 ≤ _; omega, by show _ ≤ 31; omega⟩, trivial⟩ (fun I119 hI119 FI119 q120 p120 => ?_)
              have t121 := p120 0 71 (fun q => absurd q.1 (by decide))
              have t122 := p120 0 72 (fun q => absurd q.1 (by decide))
              have t123 := p120 0 73 (fun q => absurd q.1 (by decide))
              have t124 := p120 0 69 (fun q => absurd q.1 (by decide))
              have t125 := p120 0 3 (fun q => absurd q.1 (by decide))
              have f126 := (show 0 ≤ I119 0 71 ∧ I119 0 71 ≤ 5 from (hI119 0 71).1)
              have f127 := (show 0 ≤ I119 0 72 ∧ I119 0 72 ≤ 1000 from (hI119 0 72).1)
              have f128 := (show 0 ≤ I119 0 73 ∧ I119 0 73 ≤ 1001 from (hI119 0 73).1)
              have f129 := (show 0 ≤ I119 0 69 ∧ I119 0 69 ≤ 1000 from (hI119 0 69).1)
              have f130 := (show 0 ≤ I119 0 3 ∧ I119 0 3 ≤ 96 from (hI119 0 3).1)
              refine gv_run 2 true hD (pc' := 217) (lv' := [(5, .inl (v5_59 + 1)), (0, .inr (.inr (some 0))), (3, .inl v3_8), (4, .inl v4_51)]) (st' := []) (h' := gr_h I119 J58) (C := ((True ∧ True) ∧ True)) rfl ⟨⟨trivial, trivial⟩, trivial⟩ ?_
              refine gv_pick [1, 2, 3, 0] rfl ?_
              exact ih217 I119 J58 (v5_59 + 1) (by omega) hI119 FI119 FJ58 ⟨by omega, by omega⟩ ⟨by omega, by omega⟩ ⟨by omega, by omega⟩ (by omega) (by omega) (by omega) (by omega) (by omega) (by omega) (by omega) (by omega) (by omega)
        obtain ⟨r131, h131, E131, P131⟩ := r_done (ws0 := ws0) (tb := tb) hws htb ext I49 J50 hI49 s1_51 ⟨by omega, by omega⟩ (by omega) (by omega) (by omega) (by omega) (by omega)
        obtain ⟨I132, J133, rfl, hI132, g131, k131, ⟨z131, rfl, q131⟩⟩ := P131
        have FI132 := gr_frt FI49 g131 rfl rfl
        have FJ133 := gr_fjt FJ50 k131 rfl rfl
        have t134 := g131 0 69 rfl
        have t135 := g131 0 3 rfl
        have f136 := (show 0 ≤ I132 0 71 ∧ I132 0 71 ≤ 5 from (hI132 0 71).1)
        have f137 := (show 0 ≤ I132 0 72 ∧ I132 0 72 ≤ 1000 from (hI132 0 72).1)
        have f138 := (show 0 ≤ I132 0 73 ∧ I132 0 73 ≤ 1001 from (hI132 0 73).1)
        have f139 := (show 0 ≤ I132 0 69 ∧ I132 0 69 ≤ 1000 from (hI132 0 69).1)
        have f140 := (show 0 ≤ I132 0 3 ∧ I132 0 3 ≤ 96 from (hI132 0 3).1)
        refine gv_callV hD rfl (As := [.inl s1_51]) (st := []) rfl (by decide) rfl rfl (gr_lV hws rfl) (Nat.le_of_ble_eq_true rfl) (gz_Ev_mono (d := 11) (by decide) E131) ?_
        show gv_X _ _ (189, [(0, .inr (.inr (some 0))), (1, .inr (.inl v1_8)), (3, .inl v3_8), (4, .inl v4_51)], [.inl z131], gr_sh ++ ext, gr_h I132 J133)
        refine gv_if_ne (t := 194) hD rfl rfl ⟨by omega, by omega⟩ (fun c141 => ?_) (fun c141 => ?_)
        · have f142 := (show 0 ≤ I132 0 3 ∧ I132 0 3 ≤ 96 from (hI132 0 3).1)
          refine gv_run 5 true hD (pc' := 203) (lv' := [(0, .inr (.inr (some 0))), (1, .inr (.inl v1_8)), (3, .inl v3_8), (4, .inl v4_51)]) (st' := [.inr (.inl v1_8), .inl (I132 0 3), .inr (.inr (some 3))]) (h' := gr_h I132 J133) (C := (((((True ∧ True) ∧ True) ∧ True) ∧ True) ∧ True)) rfl ⟨⟨⟨⟨⟨trivial, trivial⟩, trivial⟩, trivial⟩, trivial⟩, trivial⟩ ?_
          refine gv_run 1 true hD (pc' := 204) (lv' := [(0, .inr (.inr (some 0))), (1, .inr (.inl v1_8)), (3, .inl v3_8), (4, .inl v4_51)]) (st' := []) (h' := gz_up (gr_h I132 J133) 3 (Int.toNat ((I132 0 3))) (.inr (.inl v1_8))) (C := (True ∧ (0 ≤ (I132 0 3) ∧ (I132 0 3) < ((96 : Nat) : Int)))) rfl ⟨trivial, ⟨by omega, by omega⟩⟩ ?_
          refine gr_stJ FJ133 rfl rfl (fun J143 FJ143 => ?_)
          have f144 := (show 0 ≤ I132 0 3 ∧ I132 0 3 ≤ 96 from (hI132 0 3).1)
          refine gv_run 5 true hD (pc' := 213) (lv' := [(0, .inr (.inr (some 0))), (1, .inr (.inl v1_8)), (3, .inl v3_8), (4, .inl v4_51)]) (st' := [.inl v3_8, .inl (I132 0 3), .inr (.inr (some 6))]) (h' := gr_h I132 J143) (C := (((((True ∧ True) ∧ True) ∧ True) ∧ True) ∧ True)) rfl ⟨⟨⟨⟨⟨trivial, trivial⟩, trivial⟩, trivial⟩, trivial⟩, trivial⟩ ?_
          refine gv_run 1 true hD (pc' := 214) (lv' := [(0, .inr (.inr (some 0))), (1, .inr (.inl v1_8)), (3, .inl v3_8), (4, .inl v4_51)]) (st' := []) (h' := gz_up (gr_h I132 J143) 6 (Int.toNat ((I132 0 3))) (.inl v3_8)) (C := (True ∧ (0 ≤ (I132 0 3) ∧ (I132 0 3) < ((96 : Nat) : Int)))) rfl ⟨trivial, ⟨by omega, by omega⟩⟩ ?_
          refine gr_st hI132 FI132 rfl rfl ⟨⟨by show 0 ≤ _; omega, by show _ ≤ 4; omega⟩, trivial⟩ (fun I145 hI145 FI145 q146 p146 => ?_)
          have t147 := p146 0 71 (fun q => absurd q.1 (by decide))
          have t148 := p146 0 72 (fun q => absurd q.1 (by decide))
          have t149 := p146 0 73 (fun q => absurd q.1 (by decide))
          have t150 := p146 0 69 (fun q => absurd q.1 (by decide))
          have t151 := p146 0 3 (fun q => absurd q.1 (by decide))
          have f152 := (show 0 ≤ I145 0 71 ∧ I145 0 71 ≤ 5 from (hI145 0 71).1)
          have f153 := (show 0 ≤ I145 0 72 ∧ I145 0 72 ≤ 1000 from (hI145 0 72).1)
          have f154 := (show 0 ≤ I145 0 73 ∧ I145 0 73 ≤ 1001 from (hI145 0 73).1)
          have f155 := (show 0 ≤ I145 0 69 ∧ I145 0 69 ≤ 1000 from (hI145 0 69).1)
          have f156 := (show 0 ≤ I145 0 3 ∧ I145 0 3 ≤ 96 from (hI145 0 3).1)
          refine gv_run 2 true hD (pc' := 217) (lv' := [(5, .inl 0), (0, .inr (.inr (some 0))), (1, .inr (.inl v1_8)), (3, .inl v3_8), (4, .inl v4_51)]) (st' := []) (h' := gr_h I145 J143) (C := ((True ∧ True) ∧ True)) rfl ⟨⟨trivial, trivial⟩, trivial⟩ ?_
          refine gv_pick [1, 3, 4, 0] rfl ?_
          exact L217 _ I145 J143 0 (Nat.lt_succ_self _) hI145 FI145 FJ143 ⟨by omega, by omega⟩ ⟨by omega, by omega⟩ ⟨by omega, by omega⟩ (by omega) (by omega) (by omega) (by omega) (by omega) (by omega) (by omega) (by omega) (by omega)
        · refine gv_pick [] rfl ?_
          exact L192 I132 J133 hI132 FI132 FJ133 (by omega) (by omega) (by omega) (by omega) (by omega) (by omega) (by omega) (by omega)
      have f157 := (show 0 ≤ I6 0 71 ∧ I6 0 71 ≤ 5 from (hI6 0 71).1)
      refine gv_run 3 true hD (pc' := 58) (lv' := [(0, .inr (.inr (some 0))), (1, .inr (.inl v1_8)), (3, .inl v3_8)]) (st' := [.inl 1, .inl (I6 0 71)]) (h' := gr_h I6 J7) (C := (((True ∧ True) ∧ True) ∧ True)) rfl ⟨⟨⟨trivial, trivial⟩, trivial⟩, trivial⟩ ?_
      refine gv_icmp_ne (t := 113) hD rfl rfl ⟨⟨by omega, by omega⟩, ⟨by omega, by omega⟩⟩ (fun c158 => ?_) (fun c158 => ?_)
      · refine gv_run 2 true hD (pc' := 116) (lv' := [(0, .inr (.inr (some 0))), (1, .inr (.inl v1_8)), (3, .inl v3_8)]) (st' := [.inl 62, .inr (.inr (some 0))]) (h' := gr_h I6 J7) (C := ((True ∧ True) ∧ True)) rfl ⟨⟨trivial, trivial⟩, trivial⟩ ?_
        obtain ⟨r159, h159, E159, P159⟩ := r_need (ws0 := ws0) (tb := tb) hws htb ext I6 J7 hI6 62 ⟨by omega, by omega⟩ (by omega) (by omega) (by omega) (by omega) (by omega)
        obtain ⟨I160, J161, rfl, hI160, g159, k159, ⟨z159, rfl, q159⟩⟩ := P159
        have FI160 := gr_frt FI6 g159 rfl rfl
        have FJ161 := gr_fjt FJ7 k159 rfl rfl
        have t162 := g159 0 69 rfl
        have t163 := g159 0 3 rfl
        have f164 := (show 0 ≤ I160 0 71 ∧ I160 0 71 ≤ 5 from (hI160 0 71).1)
        have f165 := (show 0 ≤ I160 0 72 ∧ I160 0 72 ≤ 1000 from (hI160 0 72).1)
        have f166 := (show 0 ≤ I160 0 73 ∧ I160 0 73 ≤ 1001 from (hI160 0 73).1)
        have f167 := (show 0 ≤ I160 0 69 ∧ I160 0 69 ≤ 1000 from (hI160 0 69).1)
        have f168 := (show 0 ≤ I160 0 3 ∧ I160 0 3 ≤ 96 from (hI160 0 3).1)
        refine gv_callV hD rfl (As := [.inl 62]) (st := []) rfl (by decide) rfl rfl (gr_lV hws rfl) (Nat.le_of_ble_eq_true rfl) (gz_Ev_mono (d := 11) (by decide) E159) ?_
        show gv_X _ _ (119, [(0, .inr (.inr (some 0))), (1, .inr (.inl v1_8)), (3, .inl v3_8)], [.inl z159], gr_sh ++ ext, gr_h I160 J161)
        refine gv_if_eq (t := 129) hD rfl rfl ⟨by omega, by omega⟩ (fun c169 => ?_) (fun c169 => ?_)
        · refine gv_pick [] rfl ?_
          exact L129 I160 J161 hI160 FI160 FJ161 (by omega) (by omega) (by omega) (by omega) (by omega) (by omega) (by omega) (by omega)
        · refine gv_run 1 true hD (pc' := 123) (lv' := [(0, .inr (.inr (some 0))), (1, .inr (.inl v1_8)), (3, .inl v3_8)]) (st' := [.inr (.inr (some 0))]) (h' := gr_h I160 J161) (C := (True ∧ True)) rfl ⟨trivial, trivial⟩ ?_
          obtain ⟨r170, h170, E170, P170⟩ := r_name (ws0 := ws0) (tb := tb) hws htb ext I160 J161 hI160   
          obtain ⟨I171, J172, rfl, hI171, g170, k170, ⟨z170, rfl, q170⟩⟩ := P170
          have FI171 := gr_frt FI160 g170 rfl rfl
          have FJ172 := gr_fjt FJ161 k170 rfl rfl
          have t173 := g170 0 71 rfl
          have t174 := g170 0 72 rfl
          have t175 := g170 0 73 rfl
          have t176 := g170 0 69 rfl
          have t177 := g170 0 3 rfl
          have f178 := (show 0 ≤ I171 0 71 ∧ I171 0 71 ≤ 5 from (hI171 0 71).1)
          have f179 := (show 0 ≤ I171 0 72 ∧ I171 0 72 ≤ 1000 from (hI171 0 72).1)
          have f180 := (show 0 ≤ I171 0 73 ∧ I171 0 73 ≤ 1001 from (hI171 0 73).1)
          have f181 := (show 0 ≤ I171 0 69 ∧ I171 0 69 ≤ 1000 from (hI171 0 69).1)
          have f182 := (show 0 ≤ I171 0 3 ∧ I171 0 3 ≤ 96 from (hI171 0 3).1)
          refine gv_callV hD rfl (As := []) (st := []) rfl (by decide) rfl rfl (gr_lV hws rfl) (Nat.le_of_ble_eq_true rfl) (gz_Ev_mono (d := 3) (by decide) E170) ?_
          show gv_X _ _ (126, [(0, .inr (.inr (some 0))), (1, .inr (.inl v1_8)), (3, .inl v3_8)], [.inl z170], gr_sh ++ ext, gr_h I171 J172)
          refine gv_if_ne (t := 131) hD rfl rfl ⟨by omega, by omega⟩ (fun c183 => ?_) (fun c183 => ?_)
          · have f184 := (show 0 ≤ I171 0 2 ∧ I171 0 2 ≤ 32 from (hI171 0 2).1)
            refine gv_run 7 true hD (pc' := 144) (lv' := [(0, .inr (.inr (some 0))), (1, .inr (.inl v1_8)), (3, .inl v3_8)]) (st' := [.inr (.inl (J172 0 75)), .inl (I171 0 2), .inl 0, .inr (.inr (some 2))]) (h' := gr_h I171 J172) (C := (((((((True ∧ True) ∧ True) ∧ True) ∧ True) ∧ True) ∧ True) ∧ True)) rfl ⟨⟨⟨⟨⟨⟨⟨trivial, trivial⟩, trivial⟩, trivial⟩, trivial⟩, trivial⟩, trivial⟩, trivial⟩ ?_
            obtain ⟨r185, h185, E185, P185⟩ := r_find_2 (ws0 := ws0) (tb := tb) hws htb ext I171 J172 hI171 0 (I171 0 2) (J172 0 75) ⟨by omega, by omega⟩ ⟨by omega, by omega⟩ (by omega)
            obtain ⟨rfl, ⟨z185, rfl, q185⟩⟩ := P185
            refine gv_callS hD rfl (As := [.inr (.inr (some 2)), .inl 0, .inl (I171 0 2), .inr (.inl (J172 0 75))]) (st := []) rfl (gr_lS hws rfl) (Nat.le_of_ble_eq_true rfl) (gz_Ev_mono (d := 1) (by decide) E185) ?_
            show gv_X _ _ (147, [(0, .inr (.inr (some 0))), (1, .inr (.inl v1_8)), (3, .inl v3_8)], [.inl z185], gr_sh ++ ext, gr_h I171 J172)
            refine gv_run 2 true hD (pc' := 151) (lv' := [(4, .inl z185), (0, .inr (.inr (some 0))), (1, .inr (.inl v1_8)), (3, .inl v3_8)]) (st' := [.inl z185]) (h' := gr_h I171 J172) (C := ((True ∧ True) ∧ True)) rfl ⟨⟨trivial, trivial⟩, trivial⟩ ?_
            refine gv_if_ge (t := 160) hD rfl rfl ⟨by omega, by omega⟩ (fun c186 => ?_) (fun c186 => ?_)
            · refine gv_run 1 true hD (pc' := 161) (lv' := [(4, .inl z185), (0, .inr (.inr (some 0))), (1, .inr (.inl v1_8)), (3, .inl v3_8)]) (st' := [.inr (.inr (some 0))]) (h' := gr_h I171 J172) (C := (True ∧ True)) rfl ⟨trivial, trivial⟩ ?_
              obtain ⟨r187, h187, E187, P187⟩ := r_next (ws0 := ws0) (tb := tb) hws htb ext I171 J172 hI171   (by omega)
              obtain ⟨I188, J189, rfl, hI188, g187, k187, ⟨rfl, q187⟩⟩ := P187
              have FI188 := gr_frt FI171 g187 rfl rfl
              have FJ189 := gr_fjt FJ172 k187 rfl rfl
              have t190 := g187 0 69 rfl
              have t191 := g187 0 3 rfl
              have f192 := (show 0 ≤ I188 0 71 ∧ I188 0 71 ≤ 5 from (hI188 0 71).1)
              have f193 := (show 0 ≤ I188 0 72 ∧ I188 0 72 ≤ 1000 from (hI188 0 72).1)
              have f194 := (show 0 ≤ I188 0 73 ∧ I188 0 73 ≤ 1001 from (hI188 0 73).1)
              have f195 := (show 0 ≤ I188 0 69 ∧ I188 0 69 ≤ 1000 from (hI188 0 69).1)
              have f196 := (show 0 ≤ I188 0 3 ∧ I188 0 3 ≤ 96 from (hI188 0 3).1)
              refine gv_callV hD rfl (As := []) (st := []) rfl (by decide) rfl rfl (gr_lV hws rfl) (Nat.le_of_ble_eq_true rfl) (gz_Ev_mono (d := 10) (by decide) E187) ?_
              show gv_X _ _ (164, [(4, .inl z185), (0, .inr (.inr (some 0))), (1, .inr (.inl v1_8)), (3, .inl v3_8)], [], gr_sh ++ ext, gr_h I188 J189)
              refine gv_run 1 true hD (pc' := 165) (lv' := [(4, .inl z185), (0, .inr (.inr (some 0))), (1, .inr (.inl v1_8)), (3, .inl v3_8)]) (st' := [.inr (.inr (some 0))]) (h' := gr_h I188 J189) (C := (True ∧ True)) rfl ⟨trivial, trivial⟩ ?_
              obtain ⟨r197, h197, E197, P197⟩ := r_cost (ws0 := ws0) (tb := tb) hws htb ext I188 J189 hI188   (by omega) (by omega) (by omega) (by omega) (by omega)
              obtain ⟨I198, J199, rfl, hI198, g197, k197, ⟨z197, rfl, q197⟩⟩ := P197
              have FI198 := gr_frt FI188 g197 rfl rfl
              have FJ199 := gr_fjt FJ189 k197 rfl rfl
              have t200 := g197 0 69 rfl
              have t201 := g197 0 3 rfl
              have f202 := (show 0 ≤ I198 0 71 ∧ I198 0 71 ≤ 5 from (hI198 0 71).1)
              have f203 := (show 0 ≤ I198 0 72 ∧ I198 0 72 ≤ 1000 from (hI198 0 72).1)
              have f204 := (show 0 ≤ I198 0 73 ∧ I198 0 73 ≤ 1001 from (hI198 0 73).1)
              have f205 := (show 0 ≤ I198 0 69 ∧ I198 0 69 ≤ 1000 from (hI198 0 69).1)
              have f206 := (show 0 ≤ I198 0 3 ∧ I198 0 3 ≤ 96 from (hI198 0 3).1)
              refine gv_callV hD rfl (As := []) (st := []) rfl (by decide) rfl rfl (gr_lV hws rfl) (Nat.le_of_ble_eq_true rfl) (gz_Ev_mono (d := 11) (by decide) E197) ?_
              show gv_X _ _ (168, [(4, .inl z185), (0, .inr (.inr (some 0))), (1, .inr (.inl v1_8)), (3, .inl v3_8)], [.inl z197], gr_sh ++ ext, gr_h I198 J199)
              refine gv_if_eq (t := 192) hD rfl rfl ⟨by omega, by omega⟩ (fun c207 => ?_) (fun c207 => ?_)
              · refine gv_pick [] rfl ?_
                exact L192 I198 J199 hI198 FI198 FJ199 (by omega) (by omega) (by omega) (by omega) (by omega) (by omega) (by omega) (by omega)
              · have f208 := (show 0 ≤ I198 0 3 ∧ I198 0 3 ≤ 96 from (hI198 0 3).1)
                refine gv_run 4 true hD (pc' := 178) (lv' := [(4, .inl z185), (0, .inr (.inr (some 0))), (1, .inr (.inl v1_8)), (3, .inl v3_8)]) (st' := [.inl 96, .inl (I198 0 3), .inr (.inr (some 0))]) (h' := gr_h I198 J199) (C := ((((True ∧ True) ∧ True) ∧ True) ∧ True)) rfl ⟨⟨⟨⟨trivial, trivial⟩, trivial⟩, trivial⟩, trivial⟩ ?_
                refine gv_icmp_ge (t := 185) hD rfl rfl ⟨⟨by omega, by omega⟩, ⟨by omega, by omega⟩⟩ (fun c209 => ?_) (fun c209 => ?_)
                · refine gv_run 1 true hD (pc' := 186) (lv' := [(4, .inl z185), (0, .inr (.inr (some 0))), (1, .inr (.inl v1_8)), (3, .inl v3_8)]) (st' := [.inl 0, .inr (.inr (some 0))]) (h' := gr_h I198 J199) (C := (True ∧ True)) rfl ⟨trivial, trivial⟩ ?_
                  refine gv_pick [1, 2, 3, 0] rfl ?_
                  exact L186 I198 J199 z185 0 hI198 FI198 FJ199 ⟨by omega, by omega⟩ ⟨by omega, by omega⟩ ⟨by omega, by omega⟩ (by omega) (by omega) (by omega) (by omega) (by omega) (by omega) (by omega) (by omega) (by omega)
                · refine gv_run 2 true hD (pc' := 186) (lv' := [(4, .inl z185), (0, .inr (.inr (some 0))), (1, .inr (.inl v1_8)), (3, .inl v3_8)]) (st' := [.inl 1, .inr (.inr (some 0))]) (h' := gr_h I198 J199) (C := ((True ∧ True) ∧ True)) rfl ⟨⟨trivial, trivial⟩, trivial⟩ ?_
                  refine gv_pick [1, 2, 3, 0] rfl ?_
                  exact L186 I198 J199 z185 1 hI198 FI198 FJ199 ⟨by omega, by omega⟩ ⟨by omega, by omega⟩ ⟨by omega, by omega⟩ (by omega) (by omega) (by omega) (by omega) (by omega) (by omega) (by omega) (by omega) (by omega)
            · refine gv_run 2 true hD (pc' := 156) (lv' := [(4, .inl z185), (0, .inr (.inr (some 0))), (1, .inr (.inl v1_8)), (3, .inl v3_8)]) (st' := [.inl 5, .inr (.inr (some 0))]) (h' := gr_h I171 J172) (C := ((True ∧ True) ∧ True)) rfl ⟨⟨trivial, trivial⟩, trivial⟩ ?_
              obtain ⟨r210, h210, E210, P210⟩ := r_no_ (ws0 := ws0) (tb := tb) hws htb ext I171 J172 hI171 5 ⟨by omega, by omega⟩ 
              obtain ⟨I211, J212, rfl, hI211, g210, k210, ⟨z210, rfl, q210⟩⟩ := P210
              have FI211 := gr_frt FI171 g210 rfl rfl
              have FJ212 := gr_fjt FJ172 k210 rfl rfl
              have t213 := g210 0 71 rfl
              have t214 := g210 0 72 rfl
              have t215 := g210 0 73 rfl
              have t216 := g210 0 69 rfl
              have t217 := g210 0 3 rfl
              have f218 := (show 0 ≤ I211 0 71 ∧ I211 0 71 ≤ 5 from (hI211 0 71).1)
              have f219 := (show 0 ≤ I211 0 72 ∧ I211 0 72 ≤ 1000 from (hI211 0 72).1)
              have f220 := (show 0 ≤ I211 0 73 ∧ I211 0 73 ≤ 1001 from (hI211 0 73).1)
              have f221 := (show 0 ≤ I211 0 69 ∧ I211 0 69 ≤ 1000 from (hI211 0 69).1)
              have f222 := (show 0 ≤ I211 0 3 ∧ I211 0 3 ≤ 96 from (hI211 0 3).1)
              refine gv_callV hD rfl (As := [.inl 5]) (st := []) rfl (by decide) rfl rfl (gr_lV hws rfl) (Nat.le_of_ble_eq_true rfl) (gz_Ev_mono (d := 2) (by decide) E210) ?_
              show gv_X _ _ (159, [(4, .inl z185), (0, .inr (.inr (some 0))), (1, .inr (.inl v1_8)), (3, .inl v3_8)], [.inl z210], gr_sh ++ ext, gr_h I211 J212)
              exact gv_zret hD rfl (by omega) ⟨I211, J212, rfl, hI211, FI211, FJ212, ⟨_, rfl, by omega, by omega, by omega, by omega, by omega, by omega, by omega, by omega, by omega, by omega⟩⟩
          · refine gv_pick [] rfl ?_
            exact L129 I171 J172 hI171 FI171 FJ172 (by omega) (by omega) (by omega) (by omega) (by omega) (by omega) (by omega) (by omega)
      · have f223 := (show 0 ≤ I6 0 2 ∧ I6 0 2 ≤ 32 from (hI6 0 2).1)
        refine gv_run 7 true hD (pc' := 74) (lv' := [(0, .inr (.inr (some 0))), (1, .inr (.inl v1_8)), (3, .inl v3_8)]) (st' := [.inr (.inl (J7 0 75)), .inl (I6 0 2), .inl 0, .inr (.inr (some 2))]) (h' := gr_h I6 J7) (C := (((((((True ∧ True) ∧ True) ∧ True) ∧ True) ∧ True) ∧ True) ∧ True)) rfl ⟨⟨⟨⟨⟨⟨⟨trivial, trivial⟩, trivial⟩, trivial⟩, trivial⟩, trivial⟩, trivial⟩, trivial⟩ ?_
        obtain ⟨r224, h224, E224, P224⟩ := r_find_2 (ws0 := ws0) (tb := tb) hws htb ext I6 J7 hI6 0 (I6 0 2) (J7 0 75) ⟨by omega, by omega⟩ ⟨by omega, by omega⟩ (by omega)
        obtain ⟨rfl, ⟨z224, rfl, q224⟩⟩ := P224
        refine gv_callS hD rfl (As := [.inr (.inr (some 2)), .inl 0, .inl (I6 0 2), .inr (.inl (J7 0 75))]) (st := []) rfl (gr_lS hws rfl) (Nat.le_of_ble_eq_true rfl) (gz_Ev_mono (d := 1) (by decide) E224) ?_
        show gv_X _ _ (77, [(0, .inr (.inr (some 0))), (1, .inr (.inl v1_8)), (3, .inl v3_8)], [.inl z224], gr_sh ++ ext, gr_h I6 J7)
        refine gv_run 2 true hD (pc' := 81) (lv' := [(4, .inl z224), (0, .inr (.inr (some 0))), (1, .inr (.inl v1_8)), (3, .inl v3_8)]) (st' := [.inl z224]) (h' := gr_h I6 J7) (C := ((True ∧ True) ∧ True)) rfl ⟨⟨trivial, trivial⟩, trivial⟩ ?_
        refine gv_if_lt (t := 89) hD rfl rfl ⟨by omega, by omega⟩ (fun c225 => ?_) (fun c225 => ?_)
        · refine gv_pick [1] rfl ?_
          exact L89 (by omega) (by omega) (by omega) (by omega) (by omega) (by omega) (by omega) (by omega)
        · refine gv_run 2 true hD (pc' := 86) (lv' := [(4, .inl z224), (0, .inr (.inr (some 0))), (1, .inr (.inl v1_8)), (3, .inl v3_8)]) (st' := [.inl 4, .inl v3_8]) (h' := gr_h I6 J7) (C := ((True ∧ True) ∧ True)) rfl ⟨⟨trivial, trivial⟩, trivial⟩ ?_
          refine gv_icmp_ne (t := 95) hD rfl rfl ⟨⟨by omega, by omega⟩, ⟨by omega, by omega⟩⟩ (fun c226 => ?_) (fun c226 => ?_)
          · refine gv_run 5 true hD (pc' := 105) (lv' := [(3, .inl (v3_8 + 1)), (4, .inl z224), (0, .inr (.inr (some 0))), (1, .inr (.inl v1_8))]) (st' := [.inl z224, .inl v3_8, .inr (.inr (some 61))]) (h' := gr_h I6 J7) (C := (((((True ∧ True) ∧ True) ∧ True) ∧ True) ∧ True)) rfl ⟨⟨⟨⟨⟨trivial, trivial⟩, trivial⟩, trivial⟩, trivial⟩, trivial⟩ ?_
            refine gv_run 1 true hD (pc' := 106) (lv' := [(3, .inl (v3_8 + 1)), (4, .inl z224), (0, .inr (.inr (some 0))), (1, .inr (.inl v1_8))]) (st' := []) (h' := gz_up (gr_h I6 J7) 61 (Int.toNat v3_8) (.inl z224)) (C := (True ∧ (0 ≤ v3_8 ∧ v3_8 < ((4 : Nat) : Int)))) rfl ⟨trivial, ⟨by omega, by omega⟩⟩ ?_
            refine gr_st hI6 FI6 rfl rfl ⟨⟨by show 0 ≤ _; omega, by show _ ≤ 31; omega⟩, trivial⟩ (fun I227 hI227 FI227 q228 p228 => ?_)
            have t229 := p228 0 71 (fun q => absurd q.1 (by decide))
            have t230 := p228 0 72 (fun q => absurd q.1 (by decide))
            have t231 := p228 0 73 (fun q => absurd q.1 (by decide))
            have t232 := p228 0 69 (fun q => absurd q.1 (by decide))
            have t233 := p228 0 3 (fun q => absurd q.1 (by decide))
            have f234 := (show 0 ≤ I227 0 71 ∧ I227 0 71 ≤ 5 from (hI227 0 71).1)
            have f235 := (show 0 ≤ I227 0 72 ∧ I227 0 72 ≤ 1000 from (hI227 0 72).1)
            have f236 := (show 0 ≤ I227 0 73 ∧ I227 0 73 ≤ 1001 from (hI227 0 73).1)
            have f237 := (show 0 ≤ I227 0 69 ∧ I227 0 69 ≤ 1000 from (hI227 0 69).1)
            have f238 := (show 0 ≤ I227 0 3 ∧ I227 0 3 ≤ 96 from (hI227 0 3).1)
            refine gv_run 1 true hD (pc' := 107) (lv' := [(3, .inl (v3_8 + 1)), (4, .inl z224), (0, .inr (.inr (some 0))), (1, .inr (.inl v1_8))]) (st' := [.inr (.inr (some 0))]) (h' := gr_h I227 J7) (C := (True ∧ True)) rfl ⟨trivial, trivial⟩ ?_
            obtain ⟨r239, h239, E239, P239⟩ := r_next (ws0 := ws0) (tb := tb) hws htb ext I227 J7 hI227   (by omega)
            obtain ⟨I240, J241, rfl, hI240, g239, k239, ⟨rfl, q239⟩⟩ := P239
            have FI240 := gr_frt FI227 g239 rfl rfl
            have FJ241 := gr_fjt FJ7 k239 rfl rfl
            have t242 := g239 0 69 rfl
            have t243 := g239 0 3 rfl
            have f244 := (show 0 ≤ I240 0 71 ∧ I240 0 71 ≤ 5 from (hI240 0 71).1)
            have f245 := (show 0 ≤ I240 0 72 ∧ I240 0 72 ≤ 1000 from (hI240 0 72).1)
            have f246 := (show 0 ≤ I240 0 73 ∧ I240 0 73 ≤ 1001 from (hI240 0 73).1)
            have f247 := (show 0 ≤ I240 0 69 ∧ I240 0 69 ≤ 1000 from (hI240 0 69).1)
            have f248 := (show 0 ≤ I240 0 3 ∧ I240 0 3 ≤ 96 from (hI240 0 3).1)
            refine gv_callV hD rfl (As := []) (st := []) rfl (by decide) rfl rfl (gr_lV hws rfl) (Nat.le_of_ble_eq_true rfl) (gz_Ev_mono (d := 10) (by decide) E239) ?_
            show gv_X _ _ (110, [(3, .inl (v3_8 + 1)), (4, .inl z224), (0, .inr (.inr (some 0))), (1, .inr (.inl v1_8))], [], gr_sh ++ ext, gr_h I240 J241)
            refine gv_run 1 true hD (pc' := 53) (lv' := [(3, .inl (v3_8 + 1)), (4, .inl z224), (0, .inr (.inr (some 0))), (1, .inr (.inl v1_8))]) (st' := []) (h' := gr_h I240 J241) (C := (True ∧ True)) rfl ⟨trivial, trivial⟩ ?_
            refine gv_pick [2, 3, 0] rfl ?_
            exact ih53 I240 J241 v1_8 (v3_8 + 1) (by omega) hI240 FI240 FJ241 ⟨by omega, by omega⟩ (by omega) (by omega) (by omega) (by omega) (by omega) (by omega) (by omega) (by omega)
          · refine gv_pick [1] rfl ?_
            exact L89 (by omega) (by omega) (by omega) (by omega) (by omega) (by omega) (by omega) (by omega)
  refine gv_run 1 true hD (pc' := 1) (lv' := [(0, .inr (.inr (some 0)))]) (st' := [.inr (.inr (some 0))]) (h' := gr_h I J) (C := (True ∧ True)) rfl ⟨trivial, trivial⟩ ?_
  obtain ⟨r249, h249, E249, P249⟩ := r_name (ws0 := ws0) (tb := tb) hws htb ext I J hI   
  obtain ⟨I250, J251, rfl, hI250, g249, k249, ⟨z249, rfl, q249⟩⟩ := P249
  have FI250 := gr_frt FI g249 rfl rfl
  have FJ251 := gr_fjt FJ k249 rfl rfl
  have t252 := g249 0 71 rfl
  have t253 := g249 0 72 rfl
  have t254 := g249 0 73 rfl
  have t255 := g249 0 69 rfl
  have t256 := g249 0 3 rfl
  have f257 := (show 0 ≤ I250 0 71 ∧ I250 0 71 ≤ 5 from (hI250 0 71).1)
  have f258 := (show 0 ≤ I250 0 72 ∧ I250 0 72 ≤ 1000 from (hI250 0 72).1)
  have f259 := (show 0 ≤ I250 0 73 ∧ I250 0 73 ≤ 1001 from (hI250 0 73).1)
  have f260 := (show 0 ≤ I250 0 69 ∧ I250 0 69 ≤ 1000 from (hI250 0 69).1)
  have f261 := (show 0 ≤ I250 0 3 ∧ I250 0 3 ≤ 96 from (hI250 0 3).1)
  refine gv_callV hD rfl (As := []) (st := []) rfl (by decide) rfl rfl (gr_lV hws rfl) (Nat.le_of_ble_eq_true rfl) (gz_Ev_mono (d := 3) (by decide) E249) ?_
  show gv_X _ _ (4, [(0, .inr (.inr (some 0)))], [.inl z249], gr_sh ++ ext, gr_h I250 J251)
  refine gv_if_ne (t := 9) hD rfl rfl ⟨by omega, by omega⟩ (fun c262 => ?_) (fun c262 => ?_)
  · refine gv_run 7 true hD (pc' := 20) (lv' := [(1, .inr (.inl (J251 0 75))), (0, .inr (.inr (some 0)))]) (st' := [.inr (.inr (some 0)), .inl 0, .inr (.inr (some 3))]) (h' := gr_h I250 J251) (C := (((((((True ∧ True) ∧ True) ∧ True) ∧ True) ∧ True) ∧ True) ∧ True)) rfl ⟨⟨⟨⟨⟨⟨⟨trivial, trivial⟩, trivial⟩, trivial⟩, trivial⟩, trivial⟩, trivial⟩, trivial⟩ ?_
    have f263 := (show 0 ≤ I250 0 3 ∧ I250 0 3 ≤ 96 from (hI250 0 3).1)
    refine gv_run 2 true hD (pc' := 24) (lv' := [(1, .inr (.inl (J251 0 75))), (0, .inr (.inr (some 0)))]) (st' := [.inr (.inl (J251 0 75)), .inl (I250 0 3), .inl 0, .inr (.inr (some 3))]) (h' := gr_h I250 J251) (C := ((True ∧ True) ∧ True)) rfl ⟨⟨trivial, trivial⟩, trivial⟩ ?_
    obtain ⟨r264, h264, E264, P264⟩ := r_find_3 (ws0 := ws0) (tb := tb) hws htb ext I250 J251 hI250 0 (I250 0 3) (J251 0 75) ⟨by omega, by omega⟩ ⟨by omega, by omega⟩ (by omega)
    obtain ⟨rfl, ⟨z264, rfl, q264⟩⟩ := P264
    refine gv_callS hD rfl (As := [.inr (.inr (some 3)), .inl 0, .inl (I250 0 3), .inr (.inl (J251 0 75))]) (st := []) rfl (gr_lS hws rfl) (Nat.le_of_ble_eq_true rfl) (gz_Ev_mono (d := 1) (by decide) E264) ?_
    show gv_X _ _ (27, [(1, .inr (.inl (J251 0 75))), (0, .inr (.inr (some 0)))], [.inl z264], gr_sh ++ ext, gr_h I250 J251)
    refine gv_if_lt (t := 36) hD rfl rfl ⟨by omega, by omega⟩ (fun c265 => ?_) (fun c265 => ?_)
    · refine gv_run 1 true hD (pc' := 37) (lv' := [(1, .inr (.inl (J251 0 75))), (0, .inr (.inr (some 0)))]) (st' := [.inr (.inr (some 0))]) (h' := gr_h I250 J251) (C := (True ∧ True)) rfl ⟨trivial, trivial⟩ ?_
      obtain ⟨r266, h266, E266, P266⟩ := r_next (ws0 := ws0) (tb := tb) hws htb ext I250 J251 hI250   (by omega)
      obtain ⟨I267, J268, rfl, hI267, g266, k266, ⟨rfl, q266⟩⟩ := P266
      have FI267 := gr_frt FI250 g266 rfl rfl
      have FJ268 := gr_fjt FJ251 k266 rfl rfl
      have t269 := g266 0 69 rfl
      have t270 := g266 0 3 rfl
      have f271 := (show 0 ≤ I267 0 71 ∧ I267 0 71 ≤ 5 from (hI267 0 71).1)
      have f272 := (show 0 ≤ I267 0 72 ∧ I267 0 72 ≤ 1000 from (hI267 0 72).1)
      have f273 := (show 0 ≤ I267 0 73 ∧ I267 0 73 ≤ 1001 from (hI267 0 73).1)
      have f274 := (show 0 ≤ I267 0 69 ∧ I267 0 69 ≤ 1000 from (hI267 0 69).1)
      have f275 := (show 0 ≤ I267 0 3 ∧ I267 0 3 ≤ 96 from (hI267 0 3).1)
      refine gv_callV hD rfl (As := []) (st := []) rfl (by decide) rfl rfl (gr_lV hws rfl) (Nat.le_of_ble_eq_true rfl) (gz_Ev_mono (d := 10) (by decide) E266) ?_
      show gv_X _ _ (40, [(1, .inr (.inl (J251 0 75))), (0, .inr (.inr (some 0)))], [], gr_sh ++ ext, gr_h I267 J268)
      refine gv_run 2 true hD (pc' := 43) (lv' := [(1, .inr (.inl (J251 0 75))), (0, .inr (.inr (some 0)))]) (st' := [.inl 58, .inr (.inr (some 0))]) (h' := gr_h I267 J268) (C := ((True ∧ True) ∧ True)) rfl ⟨⟨trivial, trivial⟩, trivial⟩ ?_
      obtain ⟨r276, h276, E276, P276⟩ := r_need (ws0 := ws0) (tb := tb) hws htb ext I267 J268 hI267 58 ⟨by omega, by omega⟩ (by omega) (by omega) (by omega) (by omega) (by omega)
      obtain ⟨I277, J278, rfl, hI277, g276, k276, ⟨z276, rfl, q276⟩⟩ := P276
      have FI277 := gr_frt FI267 g276 rfl rfl
      have FJ278 := gr_fjt FJ268 k276 rfl rfl
      have t279 := g276 0 69 rfl
      have t280 := g276 0 3 rfl
      have f281 := (show 0 ≤ I277 0 71 ∧ I277 0 71 ≤ 5 from (hI277 0 71).1)
      have f282 := (show 0 ≤ I277 0 72 ∧ I277 0 72 ≤ 1000 from (hI277 0 72).1)
      have f283 := (show 0 ≤ I277 0 73 ∧ I277 0 73 ≤ 1001 from (hI277 0 73).1)
      have f284 := (show 0 ≤ I277 0 69 ∧ I277 0 69 ≤ 1000 from (hI277 0 69).1)
      have f285 := (show 0 ≤ I277 0 3 ∧ I277 0 3 ≤ 96 from (hI277 0 3).1)
      refine gv_callV hD rfl (As := [.inl 58]) (st := []) rfl (by decide) rfl rfl (gr_lV hws rfl) (Nat.le_of_ble_eq_true rfl) (gz_Ev_mono (d := 11) (by decide) E276) ?_
      show gv_X _ _ (46, [(1, .inr (.inl (J251 0 75))), (0, .inr (.inr (some 0)))], [.inl z276], gr_sh ++ ext, gr_h I277 J278)
      refine gv_if_ne (t := 51) hD rfl rfl ⟨by omega, by omega⟩ (fun c286 => ?_) (fun c286 => ?_)
      · refine gv_run 2 true hD (pc' := 53) (lv' := [(3, .inl 0), (1, .inr (.inl (J251 0 75))), (0, .inr (.inr (some 0)))]) (st' := []) (h' := gr_h I277 J278) (C := ((True ∧ True) ∧ True)) rfl ⟨⟨trivial, trivial⟩, trivial⟩ ?_
        refine gv_pick [2, 1, 0] rfl ?_
        exact L53 _ I277 J278 (J251 0 75) 0 (Nat.lt_succ_self _) hI277 FI277 FJ278 ⟨by omega, by omega⟩ (by omega) (by omega) (by omega) (by omega) (by omega) (by omega) (by omega) (by omega)
      · refine gv_run 1 true hD (pc' := 50) (lv' := [(1, .inr (.inl (J251 0 75))), (0, .inr (.inr (some 0)))]) (st' := [.inl 0]) (h' := gr_h I277 J278) (C := (True ∧ True)) rfl ⟨trivial, trivial⟩ ?_
        exact gv_zret hD rfl (by omega) ⟨I277, J278, rfl, hI277, FI277, FJ278, ⟨_, rfl, by omega, by omega, by omega, by omega, by omega, by omega, by omega, by omega, by omega, by omega⟩⟩
    · refine gv_run 2 true hD (pc' := 32) (lv' := [(1, .inr (.inl (J251 0 75))), (0, .inr (.inr (some 0)))]) (st' := [.inl 4, .inr (.inr (some 0))]) (h' := gr_h I250 J251) (C := ((True ∧ True) ∧ True)) rfl ⟨⟨trivial, trivial⟩, trivial⟩ ?_
      obtain ⟨r287, h287, E287, P287⟩ := r_no_ (ws0 := ws0) (tb := tb) hws htb ext I250 J251 hI250 4 ⟨by omega, by omega⟩ 
      obtain ⟨I288, J289, rfl, hI288, g287, k287, ⟨z287, rfl, q287⟩⟩ := P287
      have FI288 := gr_frt FI250 g287 rfl rfl
      have FJ289 := gr_fjt FJ251 k287 rfl rfl
      have t290 := g287 0 71 rfl
      have t291 := g287 0 72 rfl
      have t292 := g287 0 73 rfl
      have t293 := g287 0 69 rfl
      have t294 := g287 0 3 rfl
      have f295 := (show 0 ≤ I288 0 71 ∧ I288 0 71 ≤ 5 from (hI288 0 71).1)
      have f296 := (show 0 ≤ I288 0 72 ∧ I288 0 72 ≤ 1000 from (hI288 0 72).1)
      have f297 := (show 0 ≤ I288 0 73 ∧ I288 0 73 ≤ 1001 from (hI288 0 73).1)
      have f298 := (show 0 ≤ I288 0 69 ∧ I288 0 69 ≤ 1000 from (hI288 0 69).1)
      have f299 := (show 0 ≤ I288 0 3 ∧ I288 0 3 ≤ 96 from (hI288 0 3).1)
      refine gv_callV hD rfl (As := [.inl 4]) (st := []) rfl (by decide) rfl rfl (gr_lV hws rfl) (Nat.le_of_ble_eq_true rfl) (gz_Ev_mono (d := 2) (by decide) E287) ?_
      show gv_X _ _ (35, [(1, .inr (.inl (J251 0 75))), (0, .inr (.inr (some 0)))], [.inl z287], gr_sh ++ ext, gr_h I288 J289)
      exact gv_zret hD rfl (by omega) ⟨I288, J289, rfl, hI288, FI288, FJ289, ⟨_, rfl, by omega, by omega, by omega, by omega, by omega, by omega, by omega, by omega, by omega, by omega⟩⟩
  · refine gv_run 1 true hD (pc' := 8) (lv' := [(0, .inr (.inr (some 0)))]) (st' := [.inl 0]) (h' := gr_h I250 J251) (C := (True ∧ True)) rfl ⟨trivial, trivial⟩ ?_
    exact gv_zret hD rfl (by omega) ⟨I250, J251, rfl, hI250, FI250, FJ251, ⟨_, rfl, by omega, by omega, by omega, by omega, by omega, by omega, by omega, by omega, by omega, by omega⟩⟩
set_option maxHeartbeats 4000000 in
set_option maxRecDepth 100000 in
theorem r_said {ws0 : List Cond} {tb : String → gz_T} (hws : ∀ w ∈ gr_ws, w ∈ ws0) (htb : tb RX13 = gr_T) (ext : gz_Sh) (I : gr_I) (J : gr_J) (hI : gr_Inv I) (a1 : Int) (ha1 : 0 ≤ a1 ∧ a1 ≤ 95) (x0 : I 0 71 = 5 ∨ I 0 73 ≤ I 0 69) (x1 : I 0 72 ≤ I 0 69) (x2 : I 0 71 = 0 ∨ (I 0 72 < I 0 73 ∧ I 0 72 < I 0 69)) (x3 : I 0 71 = 3 → 2 ≤ I 0 73 - I 0 72 ∧ I 0 73 - I 0 72 ≤ 14) (x4 : I 0 72 ≤ I 0 73) (x5 : 0 ≤ I 0 6) : ∃ r h', gz_Ev ws0 tb 12 (yX13_said, cX13_said, 3, (some .boolean)) [.inr (.inr (some 0)), .inl a1] (gr_sh ++ ext) (gr_h I J) r (gr_sh ++ ext) h' 0 0 ∧ (∃ (I' : gr_I) (J' : gr_J), h' = gr_h I' J' ∧ gr_Inv I' ∧ gr_fr [71, 72, 73, 74, 75, 76, 77, 119, 120] [70, 71, 72, 73] I I' ∧ gr_fj [71, 72, 73, 74, 75, 76, 77, 119, 120] [70, 71, 72, 73] J J' ∧ (∃ z : Int, r = some (.inl z) ∧ 0 ≤ z ∧ z ≤ 1 ∧ (I' 0 71 = 5 ∨ I' 0 73 ≤ I' 0 69) ∧ (I' 0 72 ≤ I' 0 69) ∧ (I' 0 71 = 0 ∨ (I' 0 72 < I' 0 73 ∧ I' 0 72 < I' 0 69)) ∧ (I' 0 71 = 3 → 2 ≤ I' 0 73 - I' 0 72 ∧ I' 0 73 - I' 0 72 ≤ 14) ∧ (I' 0 72 ≤ I' 0 73) ∧ (I' 0 69 = I 0 69) ∧ (I 0 73 ≤ I' 0 73) ∧ (I 0 72 ≤ I' 0 72))) := by
  have FI : gr_fr [71, 72, 73, 74, 75, 76, 77, 119, 120] [70, 71, 72, 73] I I := fun _ _ _ => rfl
  have FJ : gr_fj [71, 72, 73, 74, 75, 76, 77, 119, 120] [70, 71, 72, 73] J J := fun _ _ _ => rfl
  have hD : gv_D (gr_E ws0 tb 11 (yX13_said, cX13_said, 3, (some .boolean)) kX13_said) := gq_ok oX13_said
  refine gr_ev (d := 11) (l := kX13_said) (Po := fun r h' => (∃ (I' : gr_I) (J' : gr_J), h' = gr_h I' J' ∧ gr_Inv I' ∧ gr_fr [71, 72, 73, 74, 75, 76, 77, 119, 120] [70, 71, 72, 73] I I' ∧ gr_fj [71, 72, 73, 74, 75, 76, 77, 119, 120] [70, 71, 72, 73] J J' ∧ (∃ z : Int, r = some (.inl z) ∧ 0 ≤ z ∧ z ≤ 1 ∧ (I' 0 71 = 5 ∨ I' 0 73 ≤ I' 0 69) ∧ (I' 0 72 ≤ I' 0 69) ∧ (I' 0 71 = 0 ∨ (I' 0 72 < I' 0 73 ∧ I' 0 72 < I' 0 69)) ∧ (I' 0 71 = 3 → 2 ≤ I' 0 73 - I' 0 72 ∧ I' 0 73 - I' 0 72 ≤ 14) ∧ (I' 0 72 ≤ I' 0 73) ∧ (I' 0 69 = I 0 69) ∧ (I 0 73 ≤ I' 0 73) ∧ (I 0 72 ≤ I' 0 72)))) htb rfl (Nat.le_of_ble_eq_true rfl) ?_
  have f1 := (show 0 ≤ I 0 71 ∧ I 0 71 ≤ 5 from (hI 0 71).1)
  have f2 := (show 0 ≤ I 0 72 ∧ I 0 72 ≤ 1000 from (hI 0 72).1)
  have f3 := (show 0 ≤ I 0 73 ∧ I 0 73 ≤ 1001 from (hI 0 73).1)
  have f4 := (show 0 ≤ I 0 69 ∧ I 0 69 ≤ 1000 from (hI 0 69).1)
  have f5 := (show (-1) ≤ I 0 6 ∧ I 0 6 ≤ 7 from (hI 0 6).1)
  have f6 := (show 0 ≤ I 0 119 ∧ I 0 119 ≤ 6 from (hI 0 119).1)
  have L28 : 0 ≤ a1 ∧ a1 ≤ 95 → (I 0 119 = I 0 119) → (I 0 71 = 5 ∨ I 0 73 ≤ I 0 69) → (I 0 72 ≤ I 0 69) → (I 0 71 = 0 ∨ (I 0 72 < I 0 73 ∧ I 0 72 < I 0 69)) → (I 0 71 = 3 → 2 ≤ I 0 73 - I 0 72 ∧ I 0 73 - I 0 72 ≤ 14) → (I 0 72 ≤ I 0 73) → (I 0 69 = I 0 69) → (I 0 73 ≤ I 0 73) → (I 0 72 ≤ I 0 72) → (I 0 6 = I 0 6) → gv_X (gr_E ws0 tb 11 (yX13_said, cX13_said, 3, (some .boolean)) kX13_said) (gv_Q cX13_said (some .boolean) (gr_sh ++ ext) (fun r h' => (∃ (I' : gr_I) (J' : gr_J), h' = gr_h I' J' ∧ gr_Inv I' ∧ gr_fr [71, 72, 73, 74, 75, 76, 77, 119, 120] [70, 71, 72, 73] I I' ∧ gr_fj [71, 72, 73, 74, 75, 76, 77, 119, 120] [70, 71, 72, 73] J J' ∧ (∃ z : Int, r = some (.inl z) ∧ 0 ≤ z ∧ z ≤ 1 ∧ (I' 0 71 = 5 ∨ I' 0 73 ≤ I' 0 69) ∧ (I' 0 72 ≤ I' 0 69) ∧ (I' 0 71 = 0 ∨ (I' 0 72 < I' 0 73 ∧ I' 0 72 < I' 0 69)) ∧ (I' 0 71 = 3 → 2 ≤ I' 0 73 - I' 0 72 ∧ I' 0 73 - I' 0 72 ≤ 14) ∧ (I' 0 72 ≤ I' 0 73) ∧ (I' 0 69 = I 0 69) ∧ (I 0 73 ≤ I' 0 73) ∧ (I 0 72 ≤ I' 0 72))))) (28, [(0, .inr (.inr (some 0))), (1, .inl a1)], [], gr_sh ++ ext, gr_h I J) := by
    intro ha1_7 e0_7 e1_7 e2_7 e3_7 e4_7 e5_7 e6_7 e7_7 e8_7 e9_7
    have f8 := (show 0 ≤ I 0 71 ∧ I 0 71 ≤ 5 from (hI 0 71).1)
    have f9 := (show 0 ≤ I 0 72 ∧ I 0 72 ≤ 1000 from (hI 0 72).1)
    have f10 := (show 0 ≤ I 0 73 ∧ I 0 73 ≤ 1001 from (hI 0 73).1)
    have f11 := (show 0 ≤ I 0 69 ∧ I 0 69 ≤ 1000 from (hI 0 69).1)
    have f12 := (show (-1) ≤ I 0 6 ∧ I 0 6 ≤ 7 from (hI 0 6).1)
    have f13 := (show 0 ≤ I 0 119 ∧ I 0 119 ≤ 6 from (hI 0 119).1)
    have L284 : ∀ (I14 : gr_I) (J15 : gr_J) , gr_Inv I14 → gr_fr [71, 72, 73, 74, 75, 76, 77, 119, 120] [70, 71, 72, 73] I I14 → gr_fj [71, 72, 73, 74, 75, 76, 77, 119, 120] [70, 71, 72, 73] J J15 → (I14 0 119 ≤ 5) → (I14 0 71 = 5 ∨ I14 0 73 ≤ I14 0 69) → (I14 0 72 ≤ I14 0 69) → (I14 0 71 = 0 ∨ (I14 0 72 < I14 0 73 ∧ I14 0 72 < I14 0 69)) → (I14 0 71 = 3 → 2 ≤ I14 0 73 - I14 0 72 ∧ I14 0 73 - I14 0 72 ≤ 14) → (I14 0 72 ≤ I14 0 73) → (I14 0 69 = I 0 69) → (I 0 73 ≤ I14 0 73) → (I 0 72 ≤ I14 0 72) → (I14 0 6 = I 0 6) → gv_X (gr_E ws0 tb 11 (yX13_said, cX13_said, 3, (some .boolean)) kX13_said) (gv_Q cX13_said (some .boolean) (gr_sh ++ ext) (fun r h' => (∃ (I' : gr_I) (J' : gr_J), h' = gr_h I' J' ∧ gr_Inv I' ∧ gr_fr [71, 72, 73, 74, 75, 76, 77, 119, 120] [70, 71, 72, 73] I I' ∧ gr_fj [71, 72, 73, 74, 75, 76, 77, 119, 120] [70, 71, 72, 73] J J' ∧ (∃ z : Int, r = some (.inl z) ∧ 0 ≤ z ∧ z ≤ 1 ∧ (I' 0 71 = 5 ∨ I' 0 73 ≤ I' 0 69) ∧ (I' 0 72 ≤ I' 0 69) ∧ (I' 0 71 = 0 ∨ (I' 0 72 < I' 0 73 ∧ I' 0 72 < I' 0 69)) ∧ (I' 0 71 = 3 → 2 ≤ I' 0 73 - I' 0 72 ∧ I' 0 73 - I' 0 72 ≤ 14) ∧ (I' 0 72 ≤ I' 0 73) ∧ (I' 0 69 = I 0 69) ∧ (I 0 73 ≤ I' 0 73) ∧ (I 0 72 ≤ I' 0 72))))) (284, [(0, .inr (.inr (some 0)))], [], gr_sh ++ ext, gr_h I14 J15) := by
      intro I14 J15 hI14 FI14 FJ15 e0_16 e1_16 e2_16 e3_16 e4_16 e5_16 e6_16 e7_16 e8_16 e9_16
      have f17 := (show 0 ≤ I14 0 71 ∧ I14 0 71 ≤ 5 from (hI14 0 71).1)
      have f18 := (show 0 ≤ I14 0 72 ∧ I14 0 72 ≤ 1000 from (hI14 0 72).1)
      have f19 := (show 0 ≤ I14 0 73 ∧ I14 0 73 ≤ 1001 from (hI14 0 73).1)
      have f20 := (show 0 ≤ I14 0 69 ∧ I14 0 69 ≤ 1000 from (hI14 0 69).1)
      have f21 := (show (-1) ≤ I14 0 6 ∧ I14 0 6 ≤ 7 from (hI14 0 6).1)
      have f22 := (show 0 ≤ I14 0 119 ∧ I14 0 119 ≤ 6 from (hI14 0 119).1)
      have f23 := (show 0 ≤ I14 0 119 ∧ I14 0 119 ≤ 6 from (hI14 0 119).1)
      refine gv_run 5 true hD (pc' := 291) (lv' := [(0, .inr (.inr (some 0)))]) (st' := [.inl ((I14 0 119) + 1), .inr (.inr (some 0))]) (h' := gr_h I14 J15) (C := (((((True ∧ True) ∧ True) ∧ True) ∧ True) ∧ True)) rfl ⟨⟨⟨⟨⟨trivial, trivial⟩, trivial⟩, trivial⟩, trivial⟩, trivial⟩ ?_
      refine gv_run 1 true hD (pc' := 294) (lv' := [(0, .inr (.inr (some 0)))]) (st' := []) (h' := gz_up (gr_h I14 J15) 0 119 (.inl (((I14 0 119) + 1)))) (C := (True ∧ True)) rfl ⟨trivial, trivial⟩ ?_
      refine gr_st hI14 FI14 rfl rfl ⟨⟨by show 0 ≤ _; omega, by show _ ≤ 6; omega⟩, trivial⟩ (fun I24 hI24 FI24 q25 p25 => ?_)
      have t26 := p25 0 71 (by decide)
      have t27 := p25 0 72 (by decide)
      have t28 := p25 0 73 (by decide)
      have t29 := p25 0 69 (by decide)
      have t30 := p25 0 6 (by decide)
      have f31 := (show 0 ≤ I24 0 71 ∧ I24 0 71 ≤ 5 from (hI24 0 71).1)
      have f32 := (show 0 ≤ I24 0 72 ∧ I24 0 72 ≤ 1000 from (hI24 0 72).1)
      have f33 := (show 0 ≤ I24 0 73 ∧ I24 0 73 ≤ 1001 from (hI24 0 73).1)
      have f34 := (show 0 ≤ I24 0 69 ∧ I24 0 69 ≤ 1000 from (hI24 0 69).1)
      have f35 := (show (-1) ≤ I24 0 6 ∧ I24 0 6 ≤ 7 from (hI24 0 6).1)
      have f36 := (show 0 ≤ I24 0 119 ∧ I24 0 119 ≤ 6 from (hI24 0 119).1)
      refine gv_run 1 true hD (pc' := 295) (lv' := [(0, .inr (.inr (some 0)))]) (st' := [.inl 1]) (h' := gr_h I24 J15) (C := (True ∧ True)) rfl ⟨trivial, trivial⟩ ?_
      exact gv_zret hD rfl (by omega) ⟨I24, J15, rfl, hI24, FI24, FJ15, ⟨_, rfl, by omega, by omega, by omega, by omega, by omega, by omega, by omega, by omega, by omega, by omega⟩⟩
    have f37 := (show 0 ≤ I 0 119 ∧ I 0 119 ≤ 6 from (hI 0 119).1)
    refine gv_run 3 true hD (pc' := 34) (lv' := [(0, .inr (.inr (some 0))), (1, .inl a1)]) (st' := [.inl 6, .inl (I 0 119)]) (h' := gr_h I J) (C := (((True ∧ True) ∧ True) ∧ True)) rfl ⟨⟨⟨trivial, trivial⟩, trivial⟩, trivial⟩ ?_
    refine gv_icmp_ne (t := 43) hD rfl rfl ⟨⟨by omega, by omega⟩, ⟨by omega, by omega⟩⟩ (fun c38 => ?_) (fun c38 => ?_)
    · refine gv_run 3 true hD (pc' := 48) (lv' := [(0, .inr (.inr (some 0))), (1, .inl a1)]) (st' := [.inr (.inl (J 0 95)), .inr (.inr (some 0))]) (h' := gr_h I J) (C := (((True ∧ True) ∧ True) ∧ True)) rfl ⟨⟨⟨trivial, trivial⟩, trivial⟩, trivial⟩ ?_
      obtain ⟨r39, h39, E39, P39⟩ := r_is (ws0 := ws0) (tb := tb) hws htb ext I J hI (J 0 95)  
      obtain ⟨rfl, ⟨z39, rfl, q39⟩⟩ := P39
      refine gv_callV hD rfl (As := [.inr (.inl (J 0 95))]) (st := []) rfl (by decide) rfl rfl (gr_lV hws rfl) (Nat.le_of_ble_eq_true rfl) (gz_Ev_mono (d := 1) (by decide) E39) ?_
      show gv_X _ _ (51, [(0, .inr (.inr (some 0))), (1, .inl a1)], [.inl z39], gr_sh ++ ext, gr_h I J)
      refine gv_if_eq (t := 123) hD rfl rfl ⟨by omega, by omega⟩ (fun c40 => ?_) (fun c40 => ?_)
      · refine gv_run 1 true hD (pc' := 124) (lv' := [(0, .inr (.inr (some 0))), (1, .inl a1)]) (st' := [.inr (.inr (some 0))]) (h' := gr_h I J) (C := (True ∧ True)) rfl ⟨trivial, trivial⟩ ?_
        obtain ⟨r41, h41, E41, P41⟩ := r_next (ws0 := ws0) (tb := tb) hws htb ext I J hI   (by omega)
        obtain ⟨I42, J43, rfl, hI42, g41, k41, ⟨rfl, q41⟩⟩ := P41
        have FI42 := gr_frt FI g41 rfl rfl
        have FJ43 := gr_fjt FJ k41 rfl rfl
        have t44 := g41 0 69 rfl
        have t45 := g41 0 6 rfl
        have t46 := g41 0 119 rfl
        have f47 := (show 0 ≤ I42 0 71 ∧ I42 0 71 ≤ 5 from (hI42 0 71).1)
        have f48 := (show 0 ≤ I42 0 72 ∧ I42 0 72 ≤ 1000 from (hI42 0 72).1)
        have f49 := (show 0 ≤ I42 0 73 ∧ I42 0 73 ≤ 1001 from (hI42 0 73).1)
        have f50 := (show 0 ≤ I42 0 69 ∧ I42 0 69 ≤ 1000 from (hI42 0 69).1)
        have f51 := (show (-1) ≤ I42 0 6 ∧ I42 0 6 ≤ 7 from (hI42 0 6).1)
        have f52 := (show 0 ≤ I42 0 119 ∧ I42 0 119 ≤ 6 from (hI42 0 119).1)
        refine gv_callV hD rfl (As := []) (st := []) rfl (by decide) rfl rfl (gr_lV hws rfl) (Nat.le_of_ble_eq_true rfl) (gz_Ev_mono (d := 10) (by decide) E41) ?_
        show gv_X _ _ (127, [(0, .inr (.inr (some 0))), (1, .inl a1)], [], gr_sh ++ ext, gr_h I42 J43)
        have f53 := (show 0 ≤ I42 0 71 ∧ I42 0 71 ≤ 5 from (hI42 0 71).1)
        refine gv_run 3 true hD (pc' := 132) (lv' := [(0, .inr (.inr (some 0))), (1, .inl a1)]) (st' := [.inl 2, .inl (I42 0 71)]) (h' := gr_h I42 J43) (C := (((True ∧ True) ∧ True) ∧ True)) rfl ⟨⟨⟨trivial, trivial⟩, trivial⟩, trivial⟩ ?_
        refine gv_icmp_ne (t := 177) hD rfl rfl ⟨⟨by omega, by omega⟩, ⟨by omega, by omega⟩⟩ (fun c54 => ?_) (fun c54 => ?_)
        · refine gv_run 1 true hD (pc' := 178) (lv' := [(0, .inr (.inr (some 0))), (1, .inl a1)]) (st' := [.inr (.inr (some 0))]) (h' := gr_h I42 J43) (C := (True ∧ True)) rfl ⟨trivial, trivial⟩ ?_
          obtain ⟨r55, h55, E55, P55⟩ := r_name (ws0 := ws0) (tb := tb) hws htb ext I42 J43 hI42   
          obtain ⟨I56, J57, rfl, hI56, g55, k55, ⟨z55, rfl, q55⟩⟩ := P55
          have FI56 := gr_frt FI42 g55 rfl rfl
          have FJ57 := gr_fjt FJ43 k55 rfl rfl
          have t58 := g55 0 71 rfl
          have t59 := g55 0 72 rfl
          have t60 := g55 0 73 rfl
          have t61 := g55 0 69 rfl
          have t62 := g55 0 6 rfl
          have t63 := g55 0 119 rfl
          have f64 := (show 0 ≤ I56 0 71 ∧ I56 0 71 ≤ 5 from (hI56 0 71).1)
          have f65 := (show 0 ≤ I56 0 72 ∧ I56 0 72 ≤ 1000 from (hI56 0 72).1)
          have f66 := (show 0 ≤ I56 0 73 ∧ I56 0 73 ≤ 1001 from (hI56 0 73).1)
          have f67 := (show 0 ≤ I56 0 69 ∧ I56 0 69 ≤ 1000 from (hI56 0 69).1)
          have f68 := (show (-1) ≤ I56 0 6 ∧ I56 0 6 ≤ 7 from (hI56 0 6).1)
          have f69 := (show 0 ≤ I56 0 119 ∧ I56 0 119 ≤ 6 from (hI56 0 119).1)
          refine gv_callV hD rfl (As := []) (st := []) rfl (by decide) rfl rfl (gr_lV hws rfl) (Nat.le_of_ble_eq_true rfl) (gz_Ev_mono (d := 3) (by decide) E55) ?_
          show gv_X _ _ (181, [(0, .inr (.inr (some 0))), (1, .inl a1)], [.inl z55], gr_sh ++ ext, gr_h I56 J57)
          refine gv_if_ne (t := 186) hD rfl rfl ⟨by omega, by omega⟩ (fun c70 => ?_) (fun c70 => ?_)
          · have f71 := (show (-1) ≤ I56 0 6 ∧ I56 0 6 ≤ 7 from (hI56 0 6).1)
            refine gv_run 7 true hD (pc' := 198) (lv' := [(0, .inr (.inr (some 0))), (1, .inl a1)]) (st' := [.inr (.inr (some 0)), .inl (48 * (I56 0 6)), .inr (.inr (some 21))]) (h' := gr_h I56 J57) (C := (((((((True ∧ True) ∧ True) ∧ True) ∧ True) ∧ True) ∧ True) ∧ True)) rfl ⟨⟨⟨⟨⟨⟨⟨trivial, trivial⟩, trivial⟩, trivial⟩, trivial⟩, trivial⟩, trivial⟩, trivial⟩ ?_
            have f72 := (show (-1) ≤ I56 0 6 ∧ I56 0 6 ≤ 7 from (hI56 0 6).1)
            have f73 := (show 0 ≤ I56 14 (Int.toNat ((I56 0 6))) ∧ I56 14 (Int.toNat ((I56 0 6))) ≤ 48 from (hI56 14 (Int.toNat ((I56 0 6)))).1)
            refine gv_run 4 true hD (pc' := 206) (lv' := [(0, .inr (.inr (some 0))), (1, .inl a1)]) (st' := [.inl (I56 14 (Int.toNat ((I56 0 6)))), .inl (48 * (I56 0 6)), .inr (.inr (some 21))]) (h' := gr_h I56 J57) (C := ((((True ∧ True) ∧ True) ∧ True) ∧ (0 ≤ (I56 0 6) ∧ (I56 0 6) < ((8 : Nat) : Int)))) rfl ⟨⟨⟨⟨trivial, trivial⟩, trivial⟩, trivial⟩, ⟨by omega, by omega⟩⟩ ?_
            refine gv_run 2 true hD (pc' := 210) (lv' := [(0, .inr (.inr (some 0))), (1, .inl a1)]) (st' := [.inr (.inl (J57 0 75)), .inl (I56 14 (Int.toNat ((I56 0 6)))), .inl (48 * (I56 0 6)), .inr (.inr (some 21))]) (h' := gr_h I56 J57) (C := ((True ∧ True) ∧ True)) rfl ⟨⟨trivial, trivial⟩, trivial⟩ ?_
            obtain ⟨r74, h74, E74, P74⟩ := r_find_21 (ws0 := ws0) (tb := tb) hws htb ext I56 J57 hI56 ((48 * (I56 0 6))) ((I56 14 (Int.toNat ((I56 0 6))))) (J57 0 75) ⟨by omega, by omega⟩ ⟨by omega, by omega⟩ (by omega)
            obtain ⟨rfl, ⟨z74, rfl, q74⟩⟩ := P74
            refine gv_callS hD rfl (As := [.inr (.inr (some 21)), .inl (48 * (I56 0 6)), .inl (I56 14 (Int.toNat ((I56 0 6)))), .inr (.inl (J57 0 75))]) (st := []) rfl (gr_lS hws rfl) (Nat.le_of_ble_eq_true rfl) (gz_Ev_mono (d := 1) (by decide) E74) ?_
            show gv_X _ _ (213, [(0, .inr (.inr (some 0))), (1, .inl a1)], [.inl z74], gr_sh ++ ext, gr_h I56 J57)
            refine gv_run 2 true hD (pc' := 215) (lv' := [(2, .inl z74), (0, .inr (.inr (some 0))), (1, .inl a1)]) (st' := [.inl z74]) (h' := gr_h I56 J57) (C := ((True ∧ True) ∧ True)) rfl ⟨⟨trivial, trivial⟩, trivial⟩ ?_
            refine gv_if_ge (t := 224) hD rfl rfl ⟨by omega, by omega⟩ (fun c75 => ?_) (fun c75 => ?_)
            · have f76 := (show 0 ≤ I56 0 119 ∧ I56 0 119 ≤ 6 from (hI56 0 119).1)
              refine gv_run 5 true hD (pc' := 233) (lv' := [(2, .inl z74), (0, .inr (.inr (some 0))), (1, .inl a1)]) (st' := [.inl 2, .inl (I56 0 119), .inr (.inr (some 70))]) (h' := gr_h I56 J57) (C := (((((True ∧ True) ∧ True) ∧ True) ∧ True) ∧ True)) rfl ⟨⟨⟨⟨⟨trivial, trivial⟩, trivial⟩, trivial⟩, trivial⟩, trivial⟩ ?_
              refine gv_run 1 true hD (pc' := 234) (lv' := [(2, .inl z74), (0, .inr (.inr (some 0))), (1, .inl a1)]) (st' := []) (h' := gz_up (gr_h I56 J57) 70 (Int.toNat ((I56 0 119))) (.inl 2)) (C := (True ∧ (0 ≤ (I56 0 119) ∧ (I56 0 119) < ((6 : Nat) : Int)))) rfl ⟨trivial, ⟨by omega, by omega⟩⟩ ?_
              refine gr_st hI56 FI56 rfl rfl ⟨⟨by show 0 ≤ _; omega, by show _ ≤ 2; omega⟩, trivial⟩ (fun I77 hI77 FI77 q78 p78 => ?_)
              have t79 := p78 0 71 (fun q => absurd q.1 (by decide))
              have t80 := p78 0 72 (fun q => absurd q.1 (by decide))
              have t81 := p78 0 73 (fun q => absurd q.1 (by decide))
              have t82 := p78 0 69 (fun q => absurd q.1 (by decide))
              have t83 := p78 0 6 (fun q => absurd q.1 (by decide))
              have t84 := p78 0 119 (fun q => absurd q.1 (by decide))
              have f85 := (show 0 ≤ I77 0 71 ∧ I77 0 71 ≤ 5 from (hI77 0 71).1)
              have f86 := (show 0 ≤ I77 0 72 ∧ I77 0 72 ≤ 1000 from (hI77 0 72).1)
              have f87 := (show 0 ≤ I77 0 73 ∧ I77 0 73 ≤ 1001 from (hI77 0 73).1)
              have f88 := (show 0 ≤ I77 0 69 ∧ I77 0 69 ≤ 1000 from (hI77 0 69).1)
              have f89 := (show (-1) ≤ I77 0 6 ∧ I77 0 6 ≤ 7 from (hI77 0 6).1)
              have f90 := (show 0 ≤ I77 0 119 ∧ I77 0 119 ≤ 6 from (hI77 0 119).1)
              have f91 := (show 0 ≤ I77 0 119 ∧ I77 0 119 ≤ 6 from (hI77 0 119).1)
              refine gv_run 7 true hD (pc' := 248) (lv' := [(2, .inl z74), (0, .inr (.inr (some 0))), (1, .inl a1)]) (st' := [.inl 48, .inr (.inr (some 24)), .inl (I77 0 119), .inr (.inr (some 73))]) (h' := gr_h I77 J57) (C := (((((((True ∧ True) ∧ True) ∧ True) ∧ True) ∧ True) ∧ True) ∧ True)) rfl ⟨⟨⟨⟨⟨⟨⟨trivial, trivial⟩, trivial⟩, trivial⟩, trivial⟩, trivial⟩, trivial⟩, trivial⟩ ?_
              have f92 := (show (-1) ≤ I77 0 6 ∧ I77 0 6 ≤ 7 from (hI77 0 6).1)
              have f93 := (show 0 ≤ I77 24 (Int.toNat (((48 * (I77 0 6)) + z74))) ∧ I77 24 (Int.toNat (((48 * (I77 0 6)) + z74))) ≤ 7 from (hI77 24 (Int.toNat (((48 * (I77 0 6)) + z74)))).1)
              refine gv_run 6 true hD (pc' := 256) (lv' := [(2, .inl z74), (0, .inr (.inr (some 0))), (1, .inl a1)]) (st' := [.inl (I77 24 (Int.toNat (((48 * (I77 0 6)) + z74)))), .inl (I77 0 119), .inr (.inr (some 73))]) (h' := gr_h I77 J57) (C := ((((((True ∧ True) ∧ True) ∧ True) ∧ True) ∧ True) ∧ (0 ≤ (((48 * (I77 0 6)) + z74)) ∧ (((48 * (I77 0 6)) + z74)) < ((384 : Nat) : Int)))) rfl ⟨⟨⟨⟨⟨⟨trivial, trivial⟩, trivial⟩, trivial⟩, trivial⟩, trivial⟩, ⟨by omega, by omega⟩⟩ ?_
              refine gv_run 1 true hD (pc' := 257) (lv' := [(2, .inl z74), (0, .inr (.inr (some 0))), (1, .inl a1)]) (st' := []) (h' := gz_up (gr_h I77 J57) 73 (Int.toNat ((I77 0 119))) (.inl ((I77 24 (Int.toNat (((48 * (I77 0 6)) + z74))))))) (C := (True ∧ (0 ≤ (I77 0 119) ∧ (I77 0 119) < ((6 : Nat) : Int)))) rfl ⟨trivial, ⟨by omega, by omega⟩⟩ ?_
              refine gr_st hI77 FI77 rfl rfl ⟨⟨by show 0 ≤ _; omega, by show _ ≤ 7; omega⟩, trivial⟩ (fun I94 hI94 FI94 q95 p95 => ?_)
              have t96 := p95 0 71 (fun q => absurd q.1 (by decide))
              have t97 := p95 0 72 (fun q => absurd q.1 (by decide))
              have t98 := p95 0 73 (fun q => absurd q.1 (by decide))
              have t99 := p95 0 69 (fun q => absurd q.1 (by decide))
              have t100 := p95 0 6 (fun q => absurd q.1 (by decide))
              have t101 := p95 0 119 (fun q => absurd q.1 (by decide))
              have f102 := (show 0 ≤ I94 0 71 ∧ I94 0 71 ≤ 5 from (hI94 0 71).1)
              have f103 := (show 0 ≤ I94 0 72 ∧ I94 0 72 ≤ 1000 from (hI94 0 72).1)
              have f104 := (show 0 ≤ I94 0 73 ∧ I94 0 73 ≤ 1001 from (hI94 0 73).1)
              have f105 := (show 0 ≤ I94 0 69 ∧ I94 0 69 ≤ 1000 from (hI94 0 69).1)
              have f106 := (show (-1) ≤ I94 0 6 ∧ I94 0 6 ≤ 7 from (hI94 0 6).1)
              have f107 := (show 0 ≤ I94 0 119 ∧ I94 0 119 ≤ 6 from (hI94 0 119).1)
              have f108 := (show 0 ≤ I94 0 119 ∧ I94 0 119 ≤ 6 from (hI94 0 119).1)
              refine gv_run 7 true hD (pc' := 271) (lv' := [(2, .inl z74), (0, .inr (.inr (some 0))), (1, .inl a1)]) (st' := [.inl 48, .inr (.inr (some 25)), .inl (I94 0 119), .inr (.inr (some 71))]) (h' := gr_h I94 J57) (C := (((((((True ∧ True) ∧ True) ∧ True) ∧ True) ∧ True) ∧ True) ∧ True)) rfl ⟨⟨⟨⟨⟨⟨⟨trivial, trivial⟩, trivial⟩, trivial⟩, trivial⟩, trivial⟩, trivial⟩, trivial⟩ ?_
              have f109 := (show (-1) ≤ I94 0 6 ∧ I94 0 6 ≤ 7 from (hI94 0 6).1)
              have f110 := (show 0 ≤ I94 25 (Int.toNat (((48 * (I94 0 6)) + z74))) ∧ I94 25 (Int.toNat (((48 * (I94 0 6)) + z74))) ≤ 6 from (hI94 25 (Int.toNat (((48 * (I94 0 6)) + z74)))).1)
              refine gv_run 6 true hD (pc' := 279) (lv' := [(2, .inl z74), (0, .inr (.inr (some 0))), (1, .inl a1)]) (st' := [.inl (I94 25 (Int.toNat (((48 * (I94 0 6)) + z74)))), .inl (I94 0 119), .inr (.inr (some 71))]) (h' := gr_h I94 J57) (C := ((((((True ∧ True) ∧ True) ∧ True) ∧ True) ∧ True) ∧ (0 ≤ (((48 * (I94 0 6)) + z74)) ∧ (((48 * (I94 0 6)) + z74)) < ((384 : Nat) : Int)))) rfl ⟨⟨⟨⟨⟨⟨trivial, trivial⟩, trivial⟩, trivial⟩, trivial⟩, trivial⟩, ⟨by omega, by omega⟩⟩ ?_
              refine gv_run 1 true hD (pc' := 280) (lv' := [(2, .inl z74), (0, .inr (.inr (some 0))), (1, .inl a1)]) (st' := []) (h' := gz_up (gr_h I94 J57) 71 (Int.toNat ((I94 0 119))) (.inl ((I94 25 (Int.toNat (((48 * (I94 0 6)) + z74))))))) (C := (True ∧ (0 ≤ (I94 0 119) ∧ (I94 0 119) < ((6 : Nat) : Int)))) rfl ⟨trivial, ⟨by omega, by omega⟩⟩ ?_
              refine gr_st hI94 FI94 rfl rfl ⟨⟨by show 0 ≤ _; omega, by show _ ≤ 6; omega⟩, trivial⟩ (fun I111 hI111 FI111 q112 p112 => ?_)
              have t113 := p112 0 71 (fun q => absurd q.1 (by decide))
              have t114 := p112 0 72 (fun q => absurd q.1 (by decide))
              have t115 := p112 0 73 (fun q => absurd q.1 (by decide))
              have t116 := p112 0 69 (fun q => absurd q.1 (by decide))
              have t117 := p112 0 6 (fun q => absurd q.1 (by decide))
              have t118 := p112 0 119 (fun q => absurd q.1 (by decide))
              have f119 := (show 0 ≤ I111 0 71 ∧ I111 0 71 ≤ 5 from (hI111 0 71).1)
              have f120 := (show 0 ≤ I111 0 72 ∧ I111 0 72 ≤ 1000 from (hI111 0 72).1)
              have f121 := (show 0 ≤ I111 0 73 ∧ I111 0 73 ≤ 1001 from (hI111 0 73).1)
              have f122 := (show 0 ≤ I111 0 69 ∧ I111 0 69 ≤ 1000 from (hI111 0 69).1)
              have f123 := (show (-1) ≤ I111 0 6 ∧ I111 0 6 ≤ 7 from (hI111 0 6).1)
              have f124 := (show 0 ≤ I111 0 119 ∧ I111 0 119 ≤ 6 from (hI111 0 119).1)
              refine gv_run 1 true hD (pc' := 281) (lv' := [(2, .inl z74), (0, .inr (.inr (some 0))), (1, .inl a1)]) (st' := [.inr (.inr (some 0))]) (h' := gr_h I111 J57) (C := (True ∧ True)) rfl ⟨trivial, trivial⟩ ?_
              obtain ⟨r125, h125, E125, P125⟩ := r_next (ws0 := ws0) (tb := tb) hws htb ext I111 J57 hI111   (by omega)
              obtain ⟨I126, J127, rfl, hI126, g125, k125, ⟨rfl, q125⟩⟩ := P125
              have FI126 := gr_frt FI111 g125 rfl rfl
              have FJ127 := gr_fjt FJ57 k125 rfl rfl
              have t128 := g125 0 69 rfl
              have t129 := g125 0 6 rfl
              have t130 := g125 0 119 rfl
              have f131 := (show 0 ≤ I126 0 71 ∧ I126 0 71 ≤ 5 from (hI126 0 71).1)
              have f132 := (show 0 ≤ I126 0 72 ∧ I126 0 72 ≤ 1000 from (hI126 0 72).1)
              have f133 := (show 0 ≤ I126 0 73 ∧ I126 0 73 ≤ 1001 from (hI126 0 73).1)
              have f134 := (show 0 ≤ I126 0 69 ∧ I126 0 69 ≤ 1000 from (hI126 0 69).1)
              have f135 := (show (-1) ≤ I126 0 6 ∧ I126 0 6 ≤ 7 from (hI126 0 6).1)
              have f136 := (show 0 ≤ I126 0 119 ∧ I126 0 119 ≤ 6 from (hI126 0 119).1)
              refine gv_callV hD rfl (As := []) (st := []) rfl (by decide) rfl rfl (gr_lV hws rfl) (Nat.le_of_ble_eq_true rfl) (gz_Ev_mono (d := 10) (by decide) E125) ?_
              show gv_X _ _ (284, [(2, .inl z74), (0, .inr (.inr (some 0))), (1, .inl a1)], [], gr_sh ++ ext, gr_h I126 J127)
              refine gv_pick [1] rfl ?_
              exact L284 I126 J127 hI126 FI126 FJ127 (by omega) (by omega) (by omega) (by omega) (by omega) (by omega) (by omega) (by omega) (by omega) (by omega)
            · refine gv_run 2 true hD (pc' := 220) (lv' := [(2, .inl z74), (0, .inr (.inr (some 0))), (1, .inl a1)]) (st' := [.inl 5, .inr (.inr (some 0))]) (h' := gr_h I56 J57) (C := ((True ∧ True) ∧ True)) rfl ⟨⟨trivial, trivial⟩, trivial⟩ ?_
              obtain ⟨r137, h137, E137, P137⟩ := r_no_ (ws0 := ws0) (tb := tb) hws htb ext I56 J57 hI56 5 ⟨by omega, by omega⟩ 
              obtain ⟨I138, J139, rfl, hI138, g137, k137, ⟨z137, rfl, q137⟩⟩ := P137
              have FI138 := gr_frt FI56 g137 rfl rfl
              have FJ139 := gr_fjt FJ57 k137 rfl rfl
              have t140 := g137 0 71 rfl
              have t141 := g137 0 72 rfl
              have t142 := g137 0 73 rfl
              have t143 := g137 0 69 rfl
              have t144 := g137 0 6 rfl
              have t145 := g137 0 119 rfl
              have f146 := (show 0 ≤ I138 0 71 ∧ I138 0 71 ≤ 5 from (hI138 0 71).1)
              have f147 := (show 0 ≤ I138 0 72 ∧ I138 0 72 ≤ 1000 from (hI138 0 72).1)
              have f148 := (show 0 ≤ I138 0 73 ∧ I138 0 73 ≤ 1001 from (hI138 0 73).1)
              have f149 := (show 0 ≤ I138 0 69 ∧ I138 0 69 ≤ 1000 from (hI138 0 69).1)
              have f150 := (show (-1) ≤ I138 0 6 ∧ I138 0 6 ≤ 7 from (hI138 0 6).1)
              have f151 := (show 0 ≤ I138 0 119 ∧ I138 0 119 ≤ 6 from (hI138 0 119).1)
              refine gv_callV hD rfl (As := [.inl 5]) (st := []) rfl (by decide) rfl rfl (gr_lV hws rfl) (Nat.le_of_ble_eq_true rfl) (gz_Ev_mono (d := 2) (by decide) E137) ?_
              show gv_X _ _ (223, [(2, .inl z74), (0, .inr (.inr (some 0))), (1, .inl a1)], [.inl z137], gr_sh ++ ext, gr_h I138 J139)
              exact gv_zret hD rfl (by omega) ⟨I138, J139, rfl, hI138, FI138, FJ139, ⟨_, rfl, by omega, by omega, by omega, by omega, by omega, by omega, by omega, by omega, by omega, by omega⟩⟩
          · refine gv_run 1 true hD (pc' := 185) (lv' := [(0, .inr (.inr (some 0))), (1, .inl a1)]) (st' := [.inl 0]) (h' := gr_h I56 J57) (C := (True ∧ True)) rfl ⟨trivial, trivial⟩ ?_
            exact gv_zret hD rfl (by omega) ⟨I56, J57, rfl, hI56, FI56, FJ57, ⟨_, rfl, by omega, by omega, by omega, by omega, by omega, by omega, by omega, by omega, by omega, by omega⟩⟩
        · have f152 := (show 0 ≤ I42 0 119 ∧ I42 0 119 ≤ 6 from (hI42 0 119).1)
          refine gv_run 5 true hD (pc' := 144) (lv' := [(0, .inr (.inr (some 0))), (1, .inl a1)]) (st' := [.inl 1, .inl (I42 0 119), .inr (.inr (some 70))]) (h' := gr_h I42 J43) (C := (((((True ∧ True) ∧ True) ∧ True) ∧ True) ∧ True)) rfl ⟨⟨⟨⟨⟨trivial, trivial⟩, trivial⟩, trivial⟩, trivial⟩, trivial⟩ ?_
          refine gv_run 1 true hD (pc' := 145) (lv' := [(0, .inr (.inr (some 0))), (1, .inl a1)]) (st' := []) (h' := gz_up (gr_h I42 J43) 70 (Int.toNat ((I42 0 119))) (.inl 1)) (C := (True ∧ (0 ≤ (I42 0 119) ∧ (I42 0 119) < ((6 : Nat) : Int)))) rfl ⟨trivial, ⟨by omega, by omega⟩⟩ ?_
          refine gr_st hI42 FI42 rfl rfl ⟨⟨by show 0 ≤ _; omega, by show _ ≤ 2; omega⟩, trivial⟩ (fun I153 hI153 FI153 q154 p154 => ?_)
          have t155 := p154 0 71 (fun q => absurd q.1 (by decide))
          have t156 := p154 0 72 (fun q => absurd q.1 (by decide))
          have t157 := p154 0 73 (fun q => absurd q.1 (by decide))
          have t158 := p154 0 69 (fun q => absurd q.1 (by decide))
          have t159 := p154 0 6 (fun q => absurd q.1 (by decide))
          have t160 := p154 0 119 (fun q => absurd q.1 (by decide))
          have f161 := (show 0 ≤ I153 0 71 ∧ I153 0 71 ≤ 5 from (hI153 0 71).1)
          have f162 := (show 0 ≤ I153 0 72 ∧ I153 0 72 ≤ 1000 from (hI153 0 72).1)
          have f163 := (show 0 ≤ I153 0 73 ∧ I153 0 73 ≤ 1001 from (hI153 0 73).1)
          have f164 := (show 0 ≤ I153 0 69 ∧ I153 0 69 ≤ 1000 from (hI153 0 69).1)
          have f165 := (show (-1) ≤ I153 0 6 ∧ I153 0 6 ≤ 7 from (hI153 0 6).1)
          have f166 := (show 0 ≤ I153 0 119 ∧ I153 0 119 ≤ 6 from (hI153 0 119).1)
          refine gv_run 2 true hD (pc' := 147) (lv' := [(0, .inr (.inr (some 0))), (1, .inl a1)]) (st' := [.inl a1, .inr (.inr (some 0))]) (h' := gr_h I153 J43) (C := ((True ∧ True) ∧ True)) rfl ⟨⟨trivial, trivial⟩, trivial⟩ ?_
          obtain ⟨r167, h167, E167, P167⟩ := r_argumentOf (ws0 := ws0) (tb := tb) hws htb ext I153 J43 hI153 a1 ⟨by omega, by omega⟩ (by omega) (by omega) (by omega) (by omega) (by omega)
          obtain ⟨I168, J169, rfl, hI168, g167, k167, ⟨z167, rfl, q167⟩⟩ := P167
          have FI168 := gr_frt FI153 g167 rfl rfl
          have FJ169 := gr_fjt FJ43 k167 rfl rfl
          have t170 := g167 0 69 rfl
          have t171 := g167 0 6 rfl
          have t172 := g167 0 119 rfl
          have f173 := (show 0 ≤ I168 0 71 ∧ I168 0 71 ≤ 5 from (hI168 0 71).1)
          have f174 := (show 0 ≤ I168 0 72 ∧ I168 0 72 ≤ 1000 from (hI168 0 72).1)
          have f175 := (show 0 ≤ I168 0 73 ∧ I168 0 73 ≤ 1001 from (hI168 0 73).1)
          have f176 := (show 0 ≤ I168 0 69 ∧ I168 0 69 ≤ 1000 from (hI168 0 69).1)
          have f177 := (show (-1) ≤ I168 0 6 ∧ I168 0 6 ≤ 7 from (hI168 0 6).1)
          have f178 := (show 0 ≤ I168 0 119 ∧ I168 0 119 ≤ 6 from (hI168 0 119).1)
          refine gv_callV hD rfl (As := [.inl a1]) (st := []) rfl (by decide) rfl rfl (gr_lV hws rfl) (Nat.le_of_ble_eq_true rfl) (gz_Ev_mono (d := 11) (by decide) E167) ?_
          show gv_X _ _ (150, [(0, .inr (.inr (some 0))), (1, .inl a1)], [.inl z167], gr_sh ++ ext, gr_h I168 J169)
          refine gv_if_ne (t := 155) hD rfl rfl ⟨by omega, by omega⟩ (fun c179 => ?_) (fun c179 => ?_)
          · have f180 := (show 0 ≤ I168 0 119 ∧ I168 0 119 ≤ 6 from (hI168 0 119).1)
            have f181 := (show 0 ≤ I168 0 120 ∧ I168 0 120 ≤ 3 from (hI168 0 120).1)
            refine gv_run 6 true hD (pc' := 167) (lv' := [(0, .inr (.inr (some 0))), (1, .inl a1)]) (st' := [.inl (I168 0 120), .inl (I168 0 119), .inr (.inr (some 71))]) (h' := gr_h I168 J169) (C := ((((((True ∧ True) ∧ True) ∧ True) ∧ True) ∧ True) ∧ True)) rfl ⟨⟨⟨⟨⟨⟨trivial, trivial⟩, trivial⟩, trivial⟩, trivial⟩, trivial⟩, trivial⟩ ?_
            refine gv_run 1 true hD (pc' := 168) (lv' := [(0, .inr (.inr (some 0))), (1, .inl a1)]) (st' := []) (h' := gz_up (gr_h I168 J169) 71 (Int.toNat ((I168 0 119))) (.inl (I168 0 120))) (C := (True ∧ (0 ≤ (I168 0 119) ∧ (I168 0 119) < ((6 : Nat) : Int)))) rfl ⟨trivial, ⟨by omega, by omega⟩⟩ ?_
            refine gr_st hI168 FI168 rfl rfl ⟨⟨by show 0 ≤ _; omega, by show _ ≤ 6; omega⟩, trivial⟩ (fun I182 hI182 FI182 q183 p183 => ?_)
            have t184 := p183 0 71 (fun q => absurd q.1 (by decide))
            have t185 := p183 0 72 (fun q => absurd q.1 (by decide))
            have t186 := p183 0 73 (fun q => absurd q.1 (by decide))
            have t187 := p183 0 69 (fun q => absurd q.1 (by decide))
            have t188 := p183 0 6 (fun q => absurd q.1 (by decide))
            have t189 := p183 0 119 (fun q => absurd q.1 (by decide))
            have f190 := (show 0 ≤ I182 0 71 ∧ I182 0 71 ≤ 5 from (hI182 0 71).1)
            have f191 := (show 0 ≤ I182 0 72 ∧ I182 0 72 ≤ 1000 from (hI182 0 72).1)
            have f192 := (show 0 ≤ I182 0 73 ∧ I182 0 73 ≤ 1001 from (hI182 0 73).1)
            have f193 := (show 0 ≤ I182 0 69 ∧ I182 0 69 ≤ 1000 from (hI182 0 69).1)
            have f194 := (show (-1) ≤ I182 0 6 ∧ I182 0 6 ≤ 7 from (hI182 0 6).1)
            have f195 := (show 0 ≤ I182 0 119 ∧ I182 0 119 ≤ 6 from (hI182 0 119).1)
            refine gv_run 1 true hD (pc' := 169) (lv' := [(0, .inr (.inr (some 0))), (1, .inl a1)]) (st' := [.inr (.inr (some 0))]) (h' := gr_h I182 J169) (C := (True ∧ True)) rfl ⟨trivial, trivial⟩ ?_
            obtain ⟨r196, h196, E196, P196⟩ := r_featureOf (ws0 := ws0) (tb := tb) hws htb ext I182 J169 hI182   (by omega) (by omega) (by omega) (by omega) (by omega) (by omega) (by omega)
            obtain ⟨I197, J198, rfl, hI197, g196, k196, ⟨z196, rfl, q196⟩⟩ := P196
            have FI197 := gr_frt FI182 g196 rfl rfl
            have FJ198 := gr_fjt FJ169 k196 rfl rfl
            have t199 := g196 0 69 rfl
            have t200 := g196 0 6 rfl
            have t201 := g196 0 119 rfl
            have f202 := (show 0 ≤ I197 0 71 ∧ I197 0 71 ≤ 5 from (hI197 0 71).1)
            have f203 := (show 0 ≤ I197 0 72 ∧ I197 0 72 ≤ 1000 from (hI197 0 72).1)
            have f204 := (show 0 ≤ I197 0 73 ∧ I197 0 73 ≤ 1001 from (hI197 0 73).1)
            have f205 := (show 0 ≤ I197 0 69 ∧ I197 0 69 ≤ 1000 from (hI197 0 69).1)
            have f206 := (show (-1) ≤ I197 0 6 ∧ I197 0 6 ≤ 7 from (hI197 0 6).1)
            have f207 := (show 0 ≤ I197 0 119 ∧ I197 0 119 ≤ 6 from (hI197 0 119).1)
            refine gv_callV hD rfl (As := []) (st := []) rfl (by decide) rfl rfl (gr_lV hws rfl) (Nat.le_of_ble_eq_true rfl) (gz_Ev_mono (d := 11) (by decide) E196) ?_
            show gv_X _ _ (172, [(0, .inr (.inr (some 0))), (1, .inl a1)], [.inl z196], gr_sh ++ ext, gr_h I197 J198)
            refine gv_if_ne (t := 284) hD rfl rfl ⟨by omega, by omega⟩ (fun c208 => ?_) (fun c208 => ?_)
            · refine gv_pick [0] rfl ?_
              exact L284 I197 J198 hI197 FI197 FJ198 (by omega) (by omega) (by omega) (by omega) (by omega) (by omega) (by omega) (by omega) (by omega) (by omega)
            · refine gv_run 1 true hD (pc' := 176) (lv' := [(0, .inr (.inr (some 0))), (1, .inl a1)]) (st' := [.inl 0]) (h' := gr_h I197 J198) (C := (True ∧ True)) rfl ⟨trivial, trivial⟩ ?_
              exact gv_zret hD rfl (by omega) ⟨I197, J198, rfl, hI197, FI197, FJ198, ⟨_, rfl, by omega, by omega, by omega, by omega, by omega, by omega, by omega, by omega, by omega, by omega⟩⟩
          · refine gv_run 1 true hD (pc' := 154) (lv' := [(0, .inr (.inr (some 0))), (1, .inl a1)]) (st' := [.inl 0]) (h' := gr_h I168 J169) (C := (True ∧ True)) rfl ⟨trivial, trivial⟩ ?_
            exact gv_zret hD rfl (by omega) ⟨I168, J169, rfl, hI168, FI168, FJ169, ⟨_, rfl, by omega, by omega, by omega, by omega, by omega, by omega, by omega, by omega, by omega, by omega⟩⟩
      · refine gv_run 1 true hD (pc' := 55) (lv' := [(0, .inr (.inr (some 0))), (1, .inl a1)]) (st' := [.inr (.inr (some 0))]) (h' := gr_h I J) (C := (True ∧ True)) rfl ⟨trivial, trivial⟩ ?_
        obtain ⟨r209, h209, E209, P209⟩ := r_next (ws0 := ws0) (tb := tb) hws htb ext I J hI   (by omega)
        obtain ⟨I210, J211, rfl, hI210, g209, k209, ⟨rfl, q209⟩⟩ := P209
        have FI210 := gr_frt FI g209 rfl rfl
        have FJ211 := gr_fjt FJ k209 rfl rfl
        have t212 := g209 0 69 rfl
        have t213 := g209 0 6 rfl
        have t214 := g209 0 119 rfl
        have f215 := (show 0 ≤ I210 0 71 ∧ I210 0 71 ≤ 5 from (hI210 0 71).1)
        have f216 := (show 0 ≤ I210 0 72 ∧ I210 0 72 ≤ 1000 from (hI210 0 72).1)
        have f217 := (show 0 ≤ I210 0 73 ∧ I210 0 73 ≤ 1001 from (hI210 0 73).1)
        have f218 := (show 0 ≤ I210 0 69 ∧ I210 0 69 ≤ 1000 from (hI210 0 69).1)
        have f219 := (show (-1) ≤ I210 0 6 ∧ I210 0 6 ≤ 7 from (hI210 0 6).1)
        have f220 := (show 0 ≤ I210 0 119 ∧ I210 0 119 ≤ 6 from (hI210 0 119).1)
        refine gv_callV hD rfl (As := []) (st := []) rfl (by decide) rfl rfl (gr_lV hws rfl) (Nat.le_of_ble_eq_true rfl) (gz_Ev_mono (d := 10) (by decide) E209) ?_
        show gv_X _ _ (58, [(0, .inr (.inr (some 0))), (1, .inl a1)], [], gr_sh ++ ext, gr_h I210 J211)
        have f221 := (show 0 ≤ I210 0 119 ∧ I210 0 119 ≤ 6 from (hI210 0 119).1)
        refine gv_run 5 true hD (pc' := 67) (lv' := [(0, .inr (.inr (some 0))), (1, .inl a1)]) (st' := [.inl 0, .inl (I210 0 119), .inr (.inr (some 70))]) (h' := gr_h I210 J211) (C := (((((True ∧ True) ∧ True) ∧ True) ∧ True) ∧ True)) rfl ⟨⟨⟨⟨⟨trivial, trivial⟩, trivial⟩, trivial⟩, trivial⟩, trivial⟩ ?_
        refine gv_run 1 true hD (pc' := 68) (lv' := [(0, .inr (.inr (some 0))), (1, .inl a1)]) (st' := []) (h' := gz_up (gr_h I210 J211) 70 (Int.toNat ((I210 0 119))) (.inl 0)) (C := (True ∧ (0 ≤ (I210 0 119) ∧ (I210 0 119) < ((6 : Nat) : Int)))) rfl ⟨trivial, ⟨by omega, by omega⟩⟩ ?_
        refine gr_st hI210 FI210 rfl rfl ⟨⟨by show 0 ≤ _; omega, by show _ ≤ 2; omega⟩, trivial⟩ (fun I222 hI222 FI222 q223 p223 => ?_)
        have t224 := p223 0 71 (fun q => absurd q.1 (by decide))
        have t225 := p223 0 72 (fun q => absurd q.1 (by decide))
        have t226 := p223 0 73 (fun q => absurd q.1 (by decide))
        have t227 := p223 0 69 (fun q => absurd q.1 (by decide))
        have t228 := p223 0 6 (fun q => absurd q.1 (by decide))
        have t229 := p223 0 119 (fun q => absurd q.1 (by decide))
        have f230 := (show 0 ≤ I222 0 71 ∧ I222 0 71 ≤ 5 from (hI222 0 71).1)
        have f231 := (show 0 ≤ I222 0 72 ∧ I222 0 72 ≤ 1000 from (hI222 0 72).1)
        have f232 := (show 0 ≤ I222 0 73 ∧ I222 0 73 ≤ 1001 from (hI222 0 73).1)
        have f233 := (show 0 ≤ I222 0 69 ∧ I222 0 69 ≤ 1000 from (hI222 0 69).1)
        have f234 := (show (-1) ≤ I222 0 6 ∧ I222 0 6 ≤ 7 from (hI222 0 6).1)
        have f235 := (show 0 ≤ I222 0 119 ∧ I222 0 119 ≤ 6 from (hI222 0 119).1)
        refine gv_run 2 true hD (pc' := 70) (lv' := [(0, .inr (.inr (some 0))), (1, .inl a1)]) (st' := [.inl a1, .inr (.inr (some 0))]) (h' := gr_h I222 J211) (C := ((True ∧ True) ∧ True)) rfl ⟨⟨trivial, trivial⟩, trivial⟩ ?_
        obtain ⟨r236, h236, E236, P236⟩ := r_argumentOf (ws0 := ws0) (tb := tb) hws htb ext I222 J211 hI222 a1 ⟨by omega, by omega⟩ (by omega) (by omega) (by omega) (by omega) (by omega)
        obtain ⟨I237, J238, rfl, hI237, g236, k236, ⟨z236, rfl, q236⟩⟩ := P236
        have FI237 := gr_frt FI222 g236 rfl rfl
        have FJ238 := gr_fjt FJ211 k236 rfl rfl
        have t239 := g236 0 69 rfl
        have t240 := g236 0 6 rfl
        have t241 := g236 0 119 rfl
        have f242 := (show 0 ≤ I237 0 71 ∧ I237 0 71 ≤ 5 from (hI237 0 71).1)
        have f243 := (show 0 ≤ I237 0 72 ∧ I237 0 72 ≤ 1000 from (hI237 0 72).1)
        have f244 := (show 0 ≤ I237 0 73 ∧ I237 0 73 ≤ 1001 from (hI237 0 73).1)
        have f245 := (show 0 ≤ I237 0 69 ∧ I237 0 69 ≤ 1000 from (hI237 0 69).1)
        have f246 := (show (-1) ≤ I237 0 6 ∧ I237 0 6 ≤ 7 from (hI237 0 6).1)
        have f247 := (show 0 ≤ I237 0 119 ∧ I237 0 119 ≤ 6 from (hI237 0 119).1)
        refine gv_callV hD rfl (As := [.inl a1]) (st := []) rfl (by decide) rfl rfl (gr_lV hws rfl) (Nat.le_of_ble_eq_true rfl) (gz_Ev_mono (d := 11) (by decide) E236) ?_
        show gv_X _ _ (73, [(0, .inr (.inr (some 0))), (1, .inl a1)], [.inl z236], gr_sh ++ ext, gr_h I237 J238)
        refine gv_if_ne (t := 78) hD rfl rfl ⟨by omega, by omega⟩ (fun c248 => ?_) (fun c248 => ?_)
        · have f249 := (show 0 ≤ I237 0 119 ∧ I237 0 119 ≤ 6 from (hI237 0 119).1)
          have f250 := (show 0 ≤ I237 0 120 ∧ I237 0 120 ≤ 3 from (hI237 0 120).1)
          refine gv_run 6 true hD (pc' := 90) (lv' := [(0, .inr (.inr (some 0))), (1, .inl a1)]) (st' := [.inl (I237 0 120), .inl (I237 0 119), .inr (.inr (some 71))]) (h' := gr_h I237 J238) (C := ((((((True ∧ True) ∧ True) ∧ True) ∧ True) ∧ True) ∧ True)) rfl ⟨⟨⟨⟨⟨⟨trivial, trivial⟩, trivial⟩, trivial⟩, trivial⟩, trivial⟩, trivial⟩ ?_
          refine gv_run 1 true hD (pc' := 91) (lv' := [(0, .inr (.inr (some 0))), (1, .inl a1)]) (st' := []) (h' := gz_up (gr_h I237 J238) 71 (Int.toNat ((I237 0 119))) (.inl (I237 0 120))) (C := (True ∧ (0 ≤ (I237 0 119) ∧ (I237 0 119) < ((6 : Nat) : Int)))) rfl ⟨trivial, ⟨by omega, by omega⟩⟩ ?_
          refine gr_st hI237 FI237 rfl rfl ⟨⟨by show 0 ≤ _; omega, by show _ ≤ 6; omega⟩, trivial⟩ (fun I251 hI251 FI251 q252 p252 => ?_)
          have t253 := p252 0 71 (fun q => absurd q.1 (by decide))
          have t254 := p252 0 72 (fun q => absurd q.1 (by decide))
          have t255 := p252 0 73 (fun q => absurd q.1 (by decide))
          have t256 := p252 0 69 (fun q => absurd q.1 (by decide))
          have t257 := p252 0 6 (fun q => absurd q.1 (by decide))
          have t258 := p252 0 119 (fun q => absurd q.1 (by decide))
          have f259 := (show 0 ≤ I251 0 71 ∧ I251 0 71 ≤ 5 from (hI251 0 71).1)
          have f260 := (show 0 ≤ I251 0 72 ∧ I251 0 72 ≤ 1000 from (hI251 0 72).1)
          have f261 := (show 0 ≤ I251 0 73 ∧ I251 0 73 ≤ 1001 from (hI251 0 73).1)
          have f262 := (show 0 ≤ I251 0 69 ∧ I251 0 69 ≤ 1000 from (hI251 0 69).1)
          have f263 := (show (-1) ≤ I251 0 6 ∧ I251 0 6 ≤ 7 from (hI251 0 6).1)
          have f264 := (show 0 ≤ I251 0 119 ∧ I251 0 119 ≤ 6 from (hI251 0 119).1)
          refine gv_run 2 true hD (pc' := 93) (lv' := [(0, .inr (.inr (some 0))), (1, .inl a1)]) (st' := [.inl a1, .inr (.inr (some 0))]) (h' := gr_h I251 J238) (C := ((True ∧ True) ∧ True)) rfl ⟨⟨trivial, trivial⟩, trivial⟩ ?_
          obtain ⟨r265, h265, E265, P265⟩ := r_argumentOf (ws0 := ws0) (tb := tb) hws htb ext I251 J238 hI251 a1 ⟨by omega, by omega⟩ (by omega) (by omega) (by omega) (by omega) (by omega)
          obtain ⟨I266, J267, rfl, hI266, g265, k265, ⟨z265, rfl, q265⟩⟩ := P265
          have FI266 := gr_frt FI251 g265 rfl rfl
          have FJ267 := gr_fjt FJ238 k265 rfl rfl
          have t268 := g265 0 69 rfl
          have t269 := g265 0 6 rfl
          have t270 := g265 0 119 rfl
          have f271 := (show 0 ≤ I266 0 71 ∧ I266 0 71 ≤ 5 from (hI266 0 71).1)
          have f272 := (show 0 ≤ I266 0 72 ∧ I266 0 72 ≤ 1000 from (hI266 0 72).1)
          have f273 := (show 0 ≤ I266 0 73 ∧ I266 0 73 ≤ 1001 from (hI266 0 73).1)
          have f274 := (show 0 ≤ I266 0 69 ∧ I266 0 69 ≤ 1000 from (hI266 0 69).1)
          have f275 := (show (-1) ≤ I266 0 6 ∧ I266 0 6 ≤ 7 from (hI266 0 6).1)
          have f276 := (show 0 ≤ I266 0 119 ∧ I266 0 119 ≤ 6 from (hI266 0 119).1)
          refine gv_callV hD rfl (As := [.inl a1]) (st := []) rfl (by decide) rfl rfl (gr_lV hws rfl) (Nat.le_of_ble_eq_true rfl) (gz_Ev_mono (d := 11) (by decide) E265) ?_
          show gv_X _ _ (96, [(0, .inr (.inr (some 0))), (1, .inl a1)], [.inl z265], gr_sh ++ ext, gr_h I266 J267)
          refine gv_if_ne (t := 101) hD rfl rfl ⟨by omega, by omega⟩ (fun c277 => ?_) (fun c277 => ?_)
          · have f278 := (show 0 ≤ I266 0 119 ∧ I266 0 119 ≤ 6 from (hI266 0 119).1)
            have f279 := (show 0 ≤ I266 0 120 ∧ I266 0 120 ≤ 3 from (hI266 0 120).1)
            refine gv_run 6 true hD (pc' := 113) (lv' := [(0, .inr (.inr (some 0))), (1, .inl a1)]) (st' := [.inl (I266 0 120), .inl (I266 0 119), .inr (.inr (some 72))]) (h' := gr_h I266 J267) (C := ((((((True ∧ True) ∧ True) ∧ True) ∧ True) ∧ True) ∧ True)) rfl ⟨⟨⟨⟨⟨⟨trivial, trivial⟩, trivial⟩, trivial⟩, trivial⟩, trivial⟩, trivial⟩ ?_
            refine gv_run 1 true hD (pc' := 114) (lv' := [(0, .inr (.inr (some 0))), (1, .inl a1)]) (st' := []) (h' := gz_up (gr_h I266 J267) 72 (Int.toNat ((I266 0 119))) (.inl (I266 0 120))) (C := (True ∧ (0 ≤ (I266 0 119) ∧ (I266 0 119) < ((6 : Nat) : Int)))) rfl ⟨trivial, ⟨by omega, by omega⟩⟩ ?_
            refine gr_st hI266 FI266 rfl rfl ⟨⟨by show 0 ≤ _; omega, by show _ ≤ 3; omega⟩, trivial⟩ (fun I280 hI280 FI280 q281 p281 => ?_)
            have t282 := p281 0 71 (fun q => absurd q.1 (by decide))
            have t283 := p281 0 72 (fun q => absurd q.1 (by decide))
            have t284 := p281 0 73 (fun q => absurd q.1 (by decide))
            have t285 := p281 0 69 (fun q => absurd q.1 (by decide))
            have t286 := p281 0 6 (fun q => absurd q.1 (by decide))
            have t287 := p281 0 119 (fun q => absurd q.1 (by decide))
            have f288 := (show 0 ≤ I280 0 71 ∧ I280 0 71 ≤ 5 from (hI280 0 71).1)
            have f289 := (show 0 ≤ I280 0 72 ∧ I280 0 72 ≤ 1000 from (hI280 0 72).1)
            have f290 := (show 0 ≤ I280 0 73 ∧ I280 0 73 ≤ 1001 from (hI280 0 73).1)
            have f291 := (show 0 ≤ I280 0 69 ∧ I280 0 69 ≤ 1000 from (hI280 0 69).1)
            have f292 := (show (-1) ≤ I280 0 6 ∧ I280 0 6 ≤ 7 from (hI280 0 6).1)
            have f293 := (show 0 ≤ I280 0 119 ∧ I280 0 119 ≤ 6 from (hI280 0 119).1)
            refine gv_run 1 true hD (pc' := 115) (lv' := [(0, .inr (.inr (some 0))), (1, .inl a1)]) (st' := [.inr (.inr (some 0))]) (h' := gr_h I280 J267) (C := (True ∧ True)) rfl ⟨trivial, trivial⟩ ?_
            obtain ⟨r294, h294, E294, P294⟩ := r_featureOf (ws0 := ws0) (tb := tb) hws htb ext I280 J267 hI280   (by omega) (by omega) (by omega) (by omega) (by omega) (by omega) (by omega)
            obtain ⟨I295, J296, rfl, hI295, g294, k294, ⟨z294, rfl, q294⟩⟩ := P294
            have FI295 := gr_frt FI280 g294 rfl rfl
            have FJ296 := gr_fjt FJ267 k294 rfl rfl
            have t297 := g294 0 69 rfl
            have t298 := g294 0 6 rfl
            have t299 := g294 0 119 rfl
            have f300 := (show 0 ≤ I295 0 71 ∧ I295 0 71 ≤ 5 from (hI295 0 71).1)
            have f301 := (show 0 ≤ I295 0 72 ∧ I295 0 72 ≤ 1000 from (hI295 0 72).1)
            have f302 := (show 0 ≤ I295 0 73 ∧ I295 0 73 ≤ 1001 from (hI295 0 73).1)
            have f303 := (show 0 ≤ I295 0 69 ∧ I295 0 69 ≤ 1000 from (hI295 0 69).1)
            have f304 := (show (-1) ≤ I295 0 6 ∧ I295 0 6 ≤ 7 from (hI295 0 6).1)
            have f305 := (show 0 ≤ I295 0 119 ∧ I295 0 119 ≤ 6 from (hI295 0 119).1)
            refine gv_callV hD rfl (As := []) (st := []) rfl (by decide) rfl rfl (gr_lV hws rfl) (Nat.le_of_ble_eq_true rfl) (gz_Ev_mono (d := 11) (by decide) E294) ?_
            show gv_X _ _ (118, [(0, .inr (.inr (some 0))), (1, .inl a1)], [.inl z294], gr_sh ++ ext, gr_h I295 J296)
            refine gv_if_ne (t := 284) hD rfl rfl ⟨by omega, by omega⟩ (fun c306 => ?_) (fun c306 => ?_)
            · refine gv_pick [0] rfl ?_
              exact L284 I295 J296 hI295 FI295 FJ296 (by omega) (by omega) (by omega) (by omega) (by omega) (by omega) (by omega) (by omega) (by omega) (by omega)
            · refine gv_run 1 true hD (pc' := 122) (lv' := [(0, .inr (.inr (some 0))), (1, .inl a1)]) (st' := [.inl 0]) (h' := gr_h I295 J296) (C := (True ∧ True)) rfl ⟨trivial, trivial⟩ ?_
              exact gv_zret hD rfl (by omega) ⟨I295, J296, rfl, hI295, FI295, FJ296, ⟨_, rfl, by omega, by omega, by omega, by omega, by omega, by omega, by omega, by omega, by omega, by omega⟩⟩
          · refine gv_run 1 true hD (pc' := 100) (lv' := [(0, .inr (.inr (some 0))), (1, .inl a1)]) (st' := [.inl 0]) (h' := gr_h I266 J267) (C := (True ∧ True)) rfl ⟨trivial, trivial⟩ ?_
            exact gv_zret hD rfl (by omega) ⟨I266, J267, rfl, hI266, FI266, FJ267, ⟨_, rfl, by omega, by omega, by omega, by omega, by omega, by omega, by omega, by omega, by omega, by omega⟩⟩
        · refine gv_run 1 true hD (pc' := 77) (lv' := [(0, .inr (.inr (some 0))), (1, .inl a1)]) (st' := [.inl 0]) (h' := gr_h I237 J238) (C := (True ∧ True)) rfl ⟨trivial, trivial⟩ ?_
          exact gv_zret hD rfl (by omega) ⟨I237, J238, rfl, hI237, FI237, FJ238, ⟨_, rfl, by omega, by omega, by omega, by omega, by omega, by omega, by omega, by omega, by omega, by omega⟩⟩
    · refine gv_run 2 true hD (pc' := 39) (lv' := [(0, .inr (.inr (some 0))), (1, .inl a1)]) (st' := [.inl 5, .inr (.inr (some 0))]) (h' := gr_h I J) (C := ((True ∧ True) ∧ True)) rfl ⟨⟨trivial, trivial⟩, trivial⟩ ?_
      obtain ⟨r307, h307, E307, P307⟩ := r_no_ (ws0 := ws0) (tb := tb) hws htb ext I J hI 5 ⟨by omega, by omega⟩ 
      obtain ⟨I308, J309, rfl, hI308, g307, k307, ⟨z307, rfl, q307⟩⟩ := P307
      have FI308 := gr_frt FI g307 rfl rfl
      have FJ309 := gr_fjt FJ k307 rfl rfl
      have t310 := g307 0 71 rfl
      have t311 := g307 0 72 rfl
      have t312 := g307 0 73 rfl
      have t313 := g307 0 69 rfl
      have t314 := g307 0 6 rfl
      have t315 := g307 0 119 rfl
      have f316 := (show 0 ≤ I308 0 71 ∧ I308 0 71 ≤ 5 from (hI308 0 71).1)
      have f317 := (show 0 ≤ I308 0 72 ∧ I308 0 72 ≤ 1000 from (hI308 0 72).1)
      have f318 := (show 0 ≤ I308 0 73 ∧ I308 0 73 ≤ 1001 from (hI308 0 73).1)
      have f319 := (show 0 ≤ I308 0 69 ∧ I308 0 69 ≤ 1000 from (hI308 0 69).1)
      have f320 := (show (-1) ≤ I308 0 6 ∧ I308 0 6 ≤ 7 from (hI308 0 6).1)
      have f321 := (show 0 ≤ I308 0 119 ∧ I308 0 119 ≤ 6 from (hI308 0 119).1)
      refine gv_callV hD rfl (As := [.inl 5]) (st := []) rfl (by decide) rfl rfl (gr_lV hws rfl) (Nat.le_of_ble_eq_true rfl) (gz_Ev_mono (d := 2) (by decide) E307) ?_
      show gv_X _ _ (42, [(0, .inr (.inr (some 0))), (1, .inl a1)], [.inl z307], gr_sh ++ ext, gr_h I308 J309)
      exact gv_zret hD rfl (by omega) ⟨I308, J309, rfl, hI308, FI308, FJ309, ⟨_, rfl, by omega, by omega, by omega, by omega, by omega, by omega, by omega, by omega, by omega, by omega⟩⟩
  refine gv_run 3 true hD (pc' := 5) (lv' := [(0, .inr (.inr (some 0))), (1, .inl a1)]) (st' := [.inr (.inl (J 0 95)), .inr (.inr (some 0))]) (h' := gr_h I J) (C := (((True ∧ True) ∧ True) ∧ True)) rfl ⟨⟨⟨trivial, trivial⟩, trivial⟩, trivial⟩ ?_
  obtain ⟨r322, h322, E322, P322⟩ := r_is (ws0 := ws0) (tb := tb) hws htb ext I J hI (J 0 95)  
  obtain ⟨rfl, ⟨z322, rfl, q322⟩⟩ := P322
  refine gv_callV hD rfl (As := [.inr (.inl (J 0 95))]) (st := []) rfl (by decide) rfl rfl (gr_lV hws rfl) (Nat.le_of_ble_eq_true rfl) (gz_Ev_mono (d := 1) (by decide) E322) ?_
  show gv_X _ _ (8, [(0, .inr (.inr (some 0))), (1, .inl a1)], [.inl z322], gr_sh ++ ext, gr_h I J)
  refine gv_if_ne (t := 28) hD rfl rfl ⟨by omega, by omega⟩ (fun c323 => ?_) (fun c323 => ?_)
  · exact L28 ⟨by omega, by omega⟩ (by omega) (by omega) (by omega) (by omega) (by omega) (by omega) (by omega) (by omega) (by omega) (by omega)
  · refine gv_run 3 true hD (pc' := 16) (lv' := [(0, .inr (.inr (some 0))), (1, .inl a1)]) (st' := [.inr (.inl (J 0 96)), .inr (.inr (some 0))]) (h' := gr_h I J) (C := (((True ∧ True) ∧ True) ∧ True)) rfl ⟨⟨⟨trivial, trivial⟩, trivial⟩, trivial⟩ ?_
    obtain ⟨r324, h324, E324, P324⟩ := r_is (ws0 := ws0) (tb := tb) hws htb ext I J hI (J 0 96)  
    obtain ⟨rfl, ⟨z324, rfl, q324⟩⟩ := P324
    refine gv_callV hD rfl (As := [.inr (.inl (J 0 96))]) (st := []) rfl (by decide) rfl rfl (gr_lV hws rfl) (Nat.le_of_ble_eq_true rfl) (gz_Ev_mono (d := 1) (by decide) E324) ?_
    show gv_X _ _ (19, [(0, .inr (.inr (some 0))), (1, .inl a1)], [.inl z324], gr_sh ++ ext, gr_h I J)
    refine gv_if_ne (t := 28) hD rfl rfl ⟨by omega, by omega⟩ (fun c325 => ?_) (fun c325 => ?_)
    · exact L28 ⟨by omega, by omega⟩ (by omega) (by omega) (by omega) (by omega) (by omega) (by omega) (by omega) (by omega) (by omega) (by omega)
    · refine gv_run 2 true hD (pc' := 24) (lv' := [(0, .inr (.inr (some 0))), (1, .inl a1)]) (st' := [.inl 1, .inr (.inr (some 0))]) (h' := gr_h I J) (C := ((True ∧ True) ∧ True)) rfl ⟨⟨trivial, trivial⟩, trivial⟩ ?_
      obtain ⟨r326, h326, E326, P326⟩ := r_no_ (ws0 := ws0) (tb := tb) hws htb ext I J hI 1 ⟨by omega, by omega⟩ 
      obtain ⟨I327, J328, rfl, hI327, g326, k326, ⟨z326, rfl, q326⟩⟩ := P326
      have FI327 := gr_frt FI g326 rfl rfl
      have FJ328 := gr_fjt FJ k326 rfl rfl
      have t329 := g326 0 71 rfl
      have t330 := g326 0 72 rfl
      have t331 := g326 0 73 rfl
      have t332 := g326 0 69 rfl
      have t333 := g326 0 6 rfl
      have t334 := g326 0 119 rfl
      have f335 := (show 0 ≤ I327 0 71 ∧ I327 0 71 ≤ 5 from (hI327 0 71).1)
      have f336 := (show 0 ≤ I327 0 72 ∧ I327 0 72 ≤ 1000 from (hI327 0 72).1)
      have f337 := (show 0 ≤ I327 0 73 ∧ I327 0 73 ≤ 1001 from (hI327 0 73).1)
      have f338 := (show 0 ≤ I327 0 69 ∧ I327 0 69 ≤ 1000 from (hI327 0 69).1)
      have f339 := (show (-1) ≤ I327 0 6 ∧ I327 0 6 ≤ 7 from (hI327 0 6).1)
      have f340 := (show 0 ≤ I327 0 119 ∧ I327 0 119 ≤ 6 from (hI327 0 119).1)
      refine gv_callV hD rfl (As := [.inl 1]) (st := []) rfl (by decide) rfl rfl (gr_lV hws rfl) (Nat.le_of_ble_eq_true rfl) (gz_Ev_mono (d := 2) (by decide) E326) ?_
      show gv_X _ _ (27, [(0, .inr (.inr (some 0))), (1, .inl a1)], [.inl z326], gr_sh ++ ext, gr_h I327 J328)
      exact gv_zret hD rfl (by omega) ⟨I327, J328, rfl, hI327, FI327, FJ328, ⟨_, rfl, by omega, by omega, by omega, by omega, by omega, by omega, by omega, by omega, by omega, by omega⟩⟩
set_option maxHeartbeats 4000000 in
set_option maxRecDepth 100000 in
theorem r_feature {ws0 : List Cond} {tb : String → gz_T} (hws : ∀ w ∈ gr_ws, w ∈ ws0) (htb : tb RX13 = gr_T) (ext : gz_Sh) (I : gr_I) (J : gr_J) (hI : gr_Inv I)   (x0 : I 0 71 = 5 ∨ I 0 73 ≤ I 0 69) (x1 : I 0 72 ≤ I 0 69) (x2 : I 0 71 = 0 ∨ (I 0 72 < I 0 73 ∧ I 0 72 < I 0 69)) (x3 : I 0 71 = 3 → 2 ≤ I 0 73 - I 0 72 ∧ I 0 73 - I 0 72 ≤ 14) (x4 : I 0 72 ≤ I 0 73) (x5 : 0 ≤ I 0 6) (KVF_I : gr_VF I) : ∃ r h', gz_Ev ws0 tb 12 (yX13_feature, cX13_feature, 9, (some .boolean)) [.inr (.inr (some 0))] (gr_sh ++ ext) (gr_h I J) r (gr_sh ++ ext) h' 0 0 ∧ (∃ (I' : gr_I) (J' : gr_J), h' = gr_h I' J' ∧ gr_Inv I' ∧ gr_fr [71, 72, 73, 74, 75, 76, 77] [13, 14, 20, 21, 24, 25, 62] I I' ∧ gr_fj [71, 72, 73, 74, 75, 76, 77] [13, 14, 20, 21, 24, 25, 62] J J' ∧ gr_VF I' ∧ (∃ z : Int, r = some (.inl z) ∧ 0 ≤ z ∧ z ≤ 1 ∧ (I' 0 71 = 5 ∨ I' 0 73 ≤ I' 0 69) ∧ (I' 0 72 ≤ I' 0 69) ∧ (I' 0 71 = 0 ∨ (I' 0 72 < I' 0 73 ∧ I' 0 72 < I' 0 69)) ∧ (I' 0 71 = 3 → 2 ≤ I' 0 73 - I' 0 72 ∧ I' 0 73 - I' 0 72 ≤ 14) ∧ (I' 0 72 ≤ I' 0 73) ∧ (I' 0 69 = I 0 69) ∧ (I 0 73 ≤ I' 0 73) ∧ (I 0 72 ≤ I' 0 72))) := by
  have FI : gr_fr [71, 72, 73, 74, 75, 76, 77] [13, 14, 20, 21, 24, 25, 62] I I := fun _ _ _ => rfl
  have FJ : gr_fj [71, 72, 73, 74, 75, 76, 77] [13, 14, 20, 21, 24, 25, 62] J J := fun _ _ _ => rfl
  have hD : gv_D (gr_E ws0 tb 11 (yX13_feature, cX13_feature, 9, (some .boolean)) kX13_feature) := gq_ok oX13_feature
  refine gr_ev (d := 11) (l := kX13_feature) (Po := fun r h' => (∃ (I' : gr_I) (J' : gr_J), h' = gr_h I' J' ∧ gr_Inv I' ∧ gr_fr [71, 72, 73, 74, 75, 76, 77] [13, 14, 20, 21, 24, 25, 62] I I' ∧ gr_fj [71, 72, 73, 74, 75, 76, 77] [13, 14, 20, 21, 24, 25, 62] J J' ∧ gr_VF I' ∧ (∃ z : Int, r = some (.inl z) ∧ 0 ≤ z ∧ z ≤ 1 ∧ (I' 0 71 = 5 ∨ I' 0 73 ≤ I' 0 69) ∧ (I' 0 72 ≤ I' 0 69) ∧ (I' 0 71 = 0 ∨ (I' 0 72 < I' 0 73 ∧ I' 0 72 < I' 0 69)) ∧ (I' 0 71 = 3 → 2 ≤ I' 0 73 - I' 0 72 ∧ I' 0 73 - I' 0 72 ≤ 14) ∧ (I' 0 72 ≤ I' 0 73) ∧ (I' 0 69 = I 0 69) ∧ (I 0 73 ≤ I' 0 73) ∧ (I 0 72 ≤ I' 0 72)))) htb rfl (Nat.le_of_ble_eq_true rfl) ?_
  have f1 := (show 0 ≤ I 0 71 ∧ I 0 71 ≤ 5 from (hI 0 71).1)
  have f2 := (show 0 ≤ I 0 72 ∧ I 0 72 ≤ 1000 from (hI 0 72).1)
  have f3 := (show 0 ≤ I 0 73 ∧ I 0 73 ≤ 1001 from (hI 0 73).1)
  have f4 := (show 0 ≤ I 0 69 ∧ I 0 69 ≤ 1000 from (hI 0 69).1)
  have f5 := (show (-1) ≤ I 0 6 ∧ I 0 6 ≤ 7 from (hI 0 6).1)
  have L66 : ∀ (I6 : gr_I) (J7 : gr_J) , gr_Inv I6 → gr_fr [71, 72, 73, 74, 75, 76, 77] [13, 14, 20, 21, 24, 25, 62] I I6 → gr_fj [71, 72, 73, 74, 75, 76, 77] [13, 14, 20, 21, 24, 25, 62] J J7 → gr_VF I6 → (I6 0 71 = 5 ∨ I6 0 73 ≤ I6 0 69) → (I6 0 72 ≤ I6 0 69) → (I6 0 71 = 0 ∨ (I6 0 72 < I6 0 73 ∧ I6 0 72 < I6 0 69)) → (I6 0 71 = 3 → 2 ≤ I6 0 73 - I6 0 72 ∧ I6 0 73 - I6 0 72 ≤ 14) → (I6 0 72 ≤ I6 0 73) → (I6 0 69 = I 0 69) → (I 0 73 ≤ I6 0 73) → (I 0 72 ≤ I6 0 72) → (I6 0 6 = I 0 6) → gv_X (gr_E ws0 tb 11 (yX13_feature, cX13_feature, 9, (some .boolean)) kX13_feature) (gv_Q cX13_feature (some .boolean) (gr_sh ++ ext) (fun r h' => (∃ (I' : gr_I) (J' : gr_J), h' = gr_h I' J' ∧ gr_Inv I' ∧ gr_fr [71, 72, 73, 74, 75, 76, 77] [13, 14, 20, 21, 24, 25, 62] I I' ∧ gr_fj [71, 72, 73, 74, 75, 76, 77] [13, 14, 20, 21, 24, 25, 62] J J' ∧ gr_VF I' ∧ (∃ z : Int, r = some (.inl z) ∧ 0 ≤ z ∧ z ≤ 1 ∧ (I' 0 71 = 5 ∨ I' 0 73 ≤ I' 0 69) ∧ (I' 0 72 ≤ I' 0 69) ∧ (I' 0 71 = 0 ∨ (I' 0 72 < I' 0 73 ∧ I' 0 72 < I' 0 69)) ∧ (I' 0 71 = 3 → 2 ≤ I' 0 73 - I' 0 72 ∧ I' 0 73 - I' 0 72 ≤ 14) ∧ (I' 0 72 ≤ I' 0 73) ∧ (I' 0 69 = I 0 69) ∧ (I 0 73 ≤ I' 0 73) ∧ (I 0 72 ≤ I' 0 72))))) (66, [], [], gr_sh ++ ext, gr_h I6 J7) := by
    intro I6 J7 hI6 FI6 FJ7 KVF_I6 e0_8 e1_8 e2_8 e3_8 e4_8 e5_8 e6_8 e7_8 e8_8
    have f9 := (show 0 ≤ I6 0 71 ∧ I6 0 71 ≤ 5 from (hI6 0 71).1)
    have f10 := (show 0 ≤ I6 0 72 ∧ I6 0 72 ≤ 1000 from (hI6 0 72).1)
    have f11 := (show 0 ≤ I6 0 73 ∧ I6 0 73 ≤ 1001 from (hI6 0 73).1)
    have f12 := (show 0 ≤ I6 0 69 ∧ I6 0 69 ≤ 1000 from (hI6 0 69).1)
    have f13 := (show (-1) ≤ I6 0 6 ∧ I6 0 6 ≤ 7 from (hI6 0 6).1)
    refine gv_run 1 true hD (pc' := 67) (lv' := []) (st' := [.inl 0]) (h' := gr_h I6 J7) (C := (True ∧ True)) rfl ⟨trivial, trivial⟩ ?_
    exact gv_zret hD rfl (by omega) ⟨I6, J7, rfl, hI6, FI6, FJ7, KVF_I6, ⟨_, rfl, by omega, by omega, by omega, by omega, by omega, by omega, by omega, by omega, by omega, by omega⟩⟩
  have L77 : ∀ (n : Nat) (I14 : gr_I) (J15 : gr_J) (v1_16 : Int) (v2_16 : Int64) (v4_16 : Int) (v5_16 : Int), (1001 - I14 0 72).toNat < n → gr_Inv I14 → gr_fr [71, 72, 73, 74, 75, 76, 77] [13, 14, 20, 21, 24, 25, 62] I I14 → gr_fj [71, 72, 73, 74, 75, 76, 77] [13, 14, 20, 21, 24, 25, 62] J J15 → gr_VF I14 → 0 ≤ v1_16 ∧ v1_16 ≤ 7 → 0 ≤ v4_16 ∧ v4_16 ≤ 6 → 0 ≤ v5_16 ∧ v5_16 ≤ 1000 → (I14 0 71 = 5 ∨ I14 0 73 ≤ I14 0 69) → (I14 0 72 ≤ I14 0 69) → (I14 0 71 = 0 ∨ (I14 0 72 < I14 0 73 ∧ I14 0 72 < I14 0 69)) → (I14 0 71 = 3 → 2 ≤ I14 0 73 - I14 0 72 ∧ I14 0 73 - I14 0 72 ≤ 14) → (I14 0 72 ≤ I14 0 73) → (I14 0 69 = I 0 69) → (I 0 73 ≤ I14 0 73) → (I 0 72 ≤ I14 0 72) → (I14 0 6 = I 0 6) → gv_X (gr_E ws0 tb 11 (yX13_feature, cX13_feature, 9, (some .boolean)) kX13_feature) (gv_Q cX13_feature (some .boolean) (gr_sh ++ ext) (fun r h' => (∃ (I' : gr_I) (J' : gr_J), h' = gr_h I' J' ∧ gr_Inv I' ∧ gr_fr [71, 72, 73, 74, 75, 76, 77] [13, 14, 20, 21, 24, 25, 62] I I' ∧ gr_fj [71, 72, 73, 74, 75, 76, 77] [13, 14, 20, 21, 24, 25, 62] J J' ∧ gr_VF I' ∧ (∃ z : Int, r = some (.inl z) ∧ 0 ≤ z ∧ z ≤ 1 ∧ (I' 0 71 = 5 ∨ I' 0 73 ≤ I' 0 69) ∧ (I' 0 72 ≤ I' 0 69) ∧ (I' 0 71 = 0 ∨ (I' 0 72 < I' 0 73 ∧ I' 0 72 < I' 0 69)) ∧ (I' 0 71 = 3 → 2 ≤ I' 0 73 - I' 0 72 ∧ I' 0 73 - I' 0 72 ≤ 14) ∧ (I' 0 72 ≤ I' 0 73) ∧ (I' 0 69 = I 0 69) ∧ (I 0 73 ≤ I' 0 73) ∧ (I 0 72 ≤ I' 0 72))))) (77, [(0, .inr (.inr (some 0))), (1, .inl v1_16), (2, .inr (.inl v2_16)), (4, .inl v4_16), (5, .inl v5_16)], [], gr_sh ++ ext, gr_h I14 J15) := by
    intro n
    induction n with
    | zero => intro I14 J15 v1_16 v2_16 v4_16 v5_16 hn; omega
    | succ n ih77 =>
      intro I14 J15 v1_16 v2_16 v4_16 v5_16 hn hI14 FI14 FJ15 KVF_I14 hv1_16 hv4_16 hv5_16 e0_16 e1_16 e2_16 e3_16 e4_16 e5_16 e6_16 e7_16 e8_16
      have f17 := (show 0 ≤ I14 0 71 ∧ I14 0 71 ≤ 5 from (hI14 0 71).1)
      have f18 := (show 0 ≤ I14 0 72 ∧ I14 0 72 ≤ 1000 from (hI14 0 72).1)
      have f19 := (show 0 ≤ I14 0 73 ∧ I14 0 73 ≤ 1001 from (hI14 0 73).1)
      have f20 := (show 0 ≤ I14 0 69 ∧ I14 0 69 ≤ 1000 from (hI14 0 69).1)
      have f21 := (show (-1) ≤ I14 0 6 ∧ I14 0 6 ≤ 7 from (hI14 0 6).1)
      have L139 : (I14 0 71 = 5 ∨ I14 0 73 ≤ I14 0 69) → (I14 0 72 ≤ I14 0 69) → (I14 0 71 = 0 ∨ (I14 0 72 < I14 0 73 ∧ I14 0 72 < I14 0 69)) → (I14 0 71 = 3 → 2 ≤ I14 0 73 - I14 0 72 ∧ I14 0 73 - I14 0 72 ≤ 14) → (I14 0 72 ≤ I14 0 73) → (I14 0 69 = I 0 69) → (I 0 73 ≤ I14 0 73) → (I 0 72 ≤ I14 0 72) → (I14 0 6 = I 0 6) → gv_X (gr_E ws0 tb 11 (yX13_feature, cX13_feature, 9, (some .boolean)) kX13_feature) (gv_Q cX13_feature (some .boolean) (gr_sh ++ ext) (fun r h' => (∃ (I' : gr_I) (J' : gr_J), h' = gr_h I' J' ∧ gr_Inv I' ∧ gr_fr [71, 72, 73, 74, 75, 76, 77] [13, 14, 20, 21, 24, 25, 62] I I' ∧ gr_fj [71, 72, 73, 74, 75, 76, 77] [13, 14, 20, 21, 24, 25, 62] J J' ∧ gr_VF I' ∧ (∃ z : Int, r = some (.inl z) ∧ 0 ≤ z ∧ z ≤ 1 ∧ (I' 0 71 = 5 ∨ I' 0 73 ≤ I' 0 69) ∧ (I' 0 72 ≤ I' 0 69) ∧ (I' 0 71 = 0 ∨ (I' 0 72 < I' 0 73 ∧ I' 0 72 < I' 0 69)) ∧ (I' 0 71 = 3 → 2 ≤ I' 0 73 - I' 0 72 ∧ I' 0 73 - I' 0 72 ≤ 14) ∧ (I' 0 72 ≤ I' 0 73) ∧ (I' 0 69 = I 0 69) ∧ (I 0 73 ≤ I' 0 73) ∧ (I 0 72 ≤ I' 0 72))))) (139, [(0, .inr (.inr (some 0)))], [], gr_sh ++ ext, gr_h I14 J15) := by
        intro e0_22 e1_22 e2_22 e3_22 e4_22 e5_22 e6_22 e7_22 e8_22
        have f23 := (show 0 ≤ I14 0 71 ∧ I14 0 71 ≤ 5 from (hI14 0 71).1)
        have f24 := (show 0 ≤ I14 0 72 ∧ I14 0 72 ≤ 1000 from (hI14 0 72).1)
        have f25 := (show 0 ≤ I14 0 73 ∧ I14 0 73 ≤ 1001 from (hI14 0 73).1)
        have f26 := (show 0 ≤ I14 0 69 ∧ I14 0 69 ≤ 1000 from (hI14 0 69).1)
        have f27 := (show (-1) ≤ I14 0 6 ∧ I14 0 6 ≤ 7 from (hI14 0 6).1)
        refine gv_run 2 true hD (pc' := 141) (lv' := [(0, .inr (.inr (some 0)))]) (st' := [.inl 4, .inr (.inr (some 0))]) (h' := gr_h I14 J15) (C := ((True ∧ True) ∧ True)) rfl ⟨⟨trivial, trivial⟩, trivial⟩ ?_
        obtain ⟨r28, h28, E28, P28⟩ := r_no_ (ws0 := ws0) (tb := tb) hws htb ext I14 J15 hI14 4 ⟨by omega, by omega⟩ 
        obtain ⟨I29, J30, rfl, hI29, g28, k28, ⟨z28, rfl, q28⟩⟩ := P28
        have FI29 := gr_frt FI14 g28 rfl rfl
        have FJ30 := gr_fjt FJ15 k28 rfl rfl
        have t31 := g28 0 71 rfl
        have t32 := g28 0 72 rfl
        have t33 := g28 0 73 rfl
        have t34 := g28 0 69 rfl
        have t35 := g28 0 6 rfl
        have f36 := (show 0 ≤ I29 0 71 ∧ I29 0 71 ≤ 5 from (hI29 0 71).1)
        have f37 := (show 0 ≤ I29 0 72 ∧ I29 0 72 ≤ 1000 from (hI29 0 72).1)
        have f38 := (show 0 ≤ I29 0 73 ∧ I29 0 73 ≤ 1001 from (hI29 0 73).1)
        have f39 := (show 0 ≤ I29 0 69 ∧ I29 0 69 ≤ 1000 from (hI29 0 69).1)
        have f40 := (show (-1) ≤ I29 0 6 ∧ I29 0 6 ≤ 7 from (hI29 0 6).1)
        have KVF_I29 := gr_VF_fr KVF_I14 (fun k => g28 14 k rfl) (fun k => g28 13 k rfl)
        refine gv_callV hD rfl (As := [.inl 4]) (st := []) rfl (by decide) rfl rfl (gr_lV hws rfl) (Nat.le_of_ble_eq_true rfl) (gz_Ev_mono (d := 2) (by decide) E28) ?_
        show gv_X _ _ (144, [(0, .inr (.inr (some 0)))], [.inl z28], gr_sh ++ ext, gr_h I29 J30)
        exact gv_zret hD rfl (by omega) ⟨I29, J30, rfl, hI29, FI29, FJ30, KVF_I29, ⟨_, rfl, by omega, by omega, by omega, by omega, by omega, by omega, by omega, by omega, by omega, by omega⟩⟩
      have L212 : ∀ (s1_41 : Int), 0 ≤ v1_16 ∧ v1_16 ≤ 7 → 0 ≤ v4_16 ∧ v4_16 ≤ 6 → 0 ≤ s1_41 ∧ s1_41 ≤ 1 → (s1_41 = 0 ∨ I14 13 (Int.toNat v1_16) ≤ 7) → (I14 0 71 = 5 ∨ I14 0 73 ≤ I14 0 69) → (I14 0 72 ≤ I14 0 69) → (I14 0 71 = 0 ∨ (I14 0 72 < I14 0 73 ∧ I14 0 72 < I14 0 69)) → (I14 0 71 = 3 → 2 ≤ I14 0 73 - I14 0 72 ∧ I14 0 73 - I14 0 72 ≤ 14) → (I14 0 72 ≤ I14 0 73) → (I14 0 69 = I 0 69) → (I 0 73 ≤ I14 0 73) → (I 0 72 ≤ I14 0 72) → (I14 0 6 = I 0 6) → gv_X (gr_E ws0 tb 11 (yX13_feature, cX13_feature, 9, (some .boolean)) kX13_feature) (gv_Q cX13_feature (some .boolean) (gr_sh ++ ext) (fun r h' => (∃ (I' : gr_I) (J' : gr_J), h' = gr_h I' J' ∧ gr_Inv I' ∧ gr_fr [71, 72, 73, 74, 75, 76, 77] [13, 14, 20, 21, 24, 25, 62] I I' ∧ gr_fj [71, 72, 73, 74, 75, 76, 77] [13, 14, 20, 21, 24, 25, 62] J J' ∧ gr_VF I' ∧ (∃ z : Int, r = some (.inl z) ∧ 0 ≤ z ∧ z ≤ 1 ∧ (I' 0 71 = 5 ∨ I' 0 73 ≤ I' 0 69) ∧ (I' 0 72 ≤ I' 0 69) ∧ (I' 0 71 = 0 ∨ (I' 0 72 < I' 0 73 ∧ I' 0 72 < I' 0 69)) ∧ (I' 0 71 = 3 → 2 ≤ I' 0 73 - I' 0 72 ∧ I' 0 73 - I' 0 72 ≤ 14) ∧ (I' 0 72 ≤ I' 0 73) ∧ (I' 0 69 = I 0 69) ∧ (I 0 73 ≤ I' 0 73) ∧ (I 0 72 ≤ I' 0 72))))) (212, [(0, .inr (.inr (some 0))), (1, .inl v1_16), (2, .inr (.inl v2_16)), (4, .inl v4_16)], [.inl s1_41, .inr (.inr (some 0))], gr_sh ++ ext, gr_h I14 J15) := by
        intro s1_41 hv1_16_41 hv4_16_41 hs1_41 e0_41 e1_41 e2_41 e3_41 e4_41 e5_41 e6_41 e7_41 e8_41 e9_41
        have f42 := (show 0 ≤ I14 0 71 ∧ I14 0 71 ≤ 5 from (hI14 0 71).1)
        have f43 := (show 0 ≤ I14 0 72 ∧ I14 0 72 ≤ 1000 from (hI14 0 72).1)
        have f44 := (show 0 ≤ I14 0 73 ∧ I14 0 73 ≤ 1001 from (hI14 0 73).1)
        have f45 := (show 0 ≤ I14 0 69 ∧ I14 0 69 ≤ 1000 from (hI14 0 69).1)
        have f46 := (show (-1) ≤ I14 0 6 ∧ I14 0 6 ≤ 7 from (hI14 0 6).1)
        have L249 : ∀ (n : Nat) (I47 : gr_I) (J48 : gr_J) (v6_49 : Int) (v7_49 : Int), (7 - v7_49).toNat < n → gr_Inv I47 → gr_fr [71, 72, 73, 74, 75, 76, 77] [13, 14, 20, 21, 24, 25, 62] I I47 → gr_fj [71, 72, 73, 74, 75, 76, 77] [13, 14, 20, 21, 24, 25, 62] J J48 → gr_VF I47 → 0 ≤ v1_16 ∧ v1_16 ≤ 7 → 0 ≤ v4_16 ∧ v4_16 ≤ 6 → 0 ≤ v6_49 ∧ v6_49 ≤ 7 → 0 ≤ v7_49 ∧ v7_49 ≤ 6 → (I47 14 (Int.toNat v1_16) + v4_16 - v7_49 ≤ 6 * I47 13 (Int.toNat v1_16)) → (I47 13 (Int.toNat v1_16) ≤ 8) → (I47 0 71 = 5 ∨ I47 0 73 ≤ I47 0 69) → (I47 0 72 ≤ I47 0 69) → (I47 0 71 = 0 ∨ (I47 0 72 < I47 0 73 ∧ I47 0 72 < I47 0 69)) → (I47 0 71 = 3 → 2 ≤ I47 0 73 - I47 0 72 ∧ I47 0 73 - I47 0 72 ≤ 14) → (I47 0 72 ≤ I47 0 73) → (I47 0 69 = I 0 69) → (I 0 73 ≤ I47 0 73) → (I 0 72 ≤ I47 0 72) → (I47 0 6 = I 0 6) → gv_X (gr_E ws0 tb 11 (yX13_feature, cX13_feature, 9, (some .boolean)) kX13_feature) (gv_Q cX13_feature (some .boolean) (gr_sh ++ ext) (fun r h' => (∃ (I' : gr_I) (J' : gr_J), h' = gr_h I' J' ∧ gr_Inv I' ∧ gr_fr [71, 72, 73, 74, 75, 76, 77] [13, 14, 20, 21, 24, 25, 62] I I' ∧ gr_fj [71, 72, 73, 74, 75, 76, 77] [13, 14, 20, 21, 24, 25, 62] J J' ∧ gr_VF I' ∧ (∃ z : Int, r = some (.inl z) ∧ 0 ≤ z ∧ z ≤ 1 ∧ (I' 0 71 = 5 ∨ I' 0 73 ≤ I' 0 69) ∧ (I' 0 72 ≤ I' 0 69) ∧ (I' 0 71 = 0 ∨ (I' 0 72 < I' 0 73 ∧ I' 0 72 < I' 0 69)) ∧ (I' 0 71 = 3 → 2 ≤ I' 0 73 - I' 0 72 ∧ I' 0 73 - I' 0 72 ≤ 14) ∧ (I' 0 72 ≤ I' 0 73) ∧ (I' 0 69 = I 0 69) ∧ (I 0 73 ≤ I' 0 73) ∧ (I 0 72 ≤ I' 0 72))))) (249, [(0, .inr (.inr (some 0))), (1, .inl v1_16), (4, .inl v4_16), (6, .inl v6_49), (7, .inl v7_49)], [], gr_sh ++ ext, gr_h I47 J48) := by
          intro n
          induction n with
          | zero => intro I47 J48 v6_49 v7_49 hn; omega
          | succ n ih249 =>
            intro I47 J48 v6_49 v7_49 hn hI47 FI47 FJ48 KVF_I47 hv1_16_49 hv4_16_49 hv6_49 hv7_49 e0_49 e1_49 e2_49 e3_49 e4_49 e5_49 e6_49 e7_49 e8_49 e9_49 e10_49
            have f50 := (show 0 ≤ I47 0 71 ∧ I47 0 71 ≤ 5 from (hI47 0 71).1)
            have f51 := (show 0 ≤ I47 0 72 ∧ I47 0 72 ≤ 1000 from (hI47 0 72).1)
            have f52 := (show 0 ≤ I47 0 73 ∧ I47 0 73 ≤ 1001 from (hI47 0 73).1)
            have f53 := (show 0 ≤ I47 0 69 ∧ I47 0 69 ≤ 1000 from (hI47 0 69).1)
            have f54 := (show (-1) ≤ I47 0 6 ∧ I47 0 6 ≤ 7 from (hI47 0 6).1)
            refine gv_run 2 true hD (pc' := 253) (lv' := [(0, .inr (.inr (some 0))), (1, .inl v1_16), (4, .inl v4_16), (6, .inl v6_49), (7, .inl v7_49)]) (st' := [.inl v4_16, .inl v7_49]) (h' := gr_h I47 J48) (C := ((True ∧ True) ∧ True)) rfl ⟨⟨trivial, trivial⟩, trivial⟩ ?_
            refine gv_icmp_ge (t := 314) hD rfl rfl ⟨⟨by omega, by omega⟩, ⟨by omega, by omega⟩⟩ (fun c55 => ?_) (fun c55 => ?_)
            · refine gv_run 1 true hD (pc' := 315) (lv' := [(0, .inr (.inr (some 0))), (1, .inl v1_16), (4, .inl v4_16), (6, .inl v6_49), (7, .inl v7_49)]) (st' := [.inl 1]) (h' := gr_h I47 J48) (C := (True ∧ True)) rfl ⟨trivial, trivial⟩ ?_
              exact gv_zret hD rfl (by omega) ⟨I47, J48, rfl, hI47, FI47, FJ48, KVF_I47, ⟨_, rfl, by omega, by omega, by omega, by omega, by omega, by omega, by omega, by omega, by omega, by omega⟩⟩
            · refine gv_run 7 true hD (pc' := 266) (lv' := [(0, .inr (.inr (some 0))), (1, .inl v1_16), (4, .inl v4_16), (6, .inl v6_49), (7, .inl v7_49)]) (st' := [.inl v1_16, .inr (.inr (some 14)), .inl v1_16, .inr (.inr (some 14)), .inl (48 * v1_16)]) (h' := gr_h I47 J48) (C := (((((((True ∧ True) ∧ True) ∧ True) ∧ True) ∧ True) ∧ True) ∧ True)) rfl ⟨⟨⟨⟨⟨⟨⟨trivial, trivial⟩, trivial⟩, trivial⟩, trivial⟩, trivial⟩, trivial⟩, trivial⟩ ?_
              have f56 := (show 0 ≤ I47 14 (Int.toNat v1_16) ∧ I47 14 (Int.toNat v1_16) ≤ 48 from (hI47 14 (Int.toNat v1_16)).1)
              refine gv_run 1 true hD (pc' := 267) (lv' := [(0, .inr (.inr (some 0))), (1, .inl v1_16), (4, .inl v4_16), (6, .inl v6_49), (7, .inl v7_49)]) (st' := [.inl (I47 14 (Int.toNat v1_16)), .inl v1_16, .inr (.inr (some 14)), .inl (48 * v1_16)]) (h' := gr_h I47 J48) (C := (True ∧ (0 ≤ v1_16 ∧ v1_16 < ((8 : Nat) : Int)))) rfl ⟨trivial, ⟨by omega, by omega⟩⟩ ?_
              refine gv_run 3 true hD (pc' := 270) (lv' := [(0, .inr (.inr (some 0))), (1, .inl v1_16), (4, .inl v4_16), (6, .inl v6_49), (7, .inl v7_49)]) (st' := [.inl ((I47 14 (Int.toNat v1_16)) + 1), .inl v1_16, .inr (.inr (some 14)), .inl (I47 14 (Int.toNat v1_16)), .inl (48 * v1_16)]) (h' := gr_h I47 J48) (C := (((True ∧ True) ∧ True) ∧ True)) rfl ⟨⟨⟨trivial, trivial⟩, trivial⟩, trivial⟩ ?_
              refine gv_run 1 true hD (pc' := 271) (lv' := [(0, .inr (.inr (some 0))), (1, .inl v1_16), (4, .inl v4_16), (6, .inl v6_49), (7, .inl v7_49)]) (st' := [.inl (I47 14 (Int.toNat v1_16)), .inl (48 * v1_16)]) (h' := gz_up (gr_h I47 J48) 14 (Int.toNat v1_16) (.inl (((I47 14 (Int.toNat v1_16)) + 1)))) (C := (True ∧ (0 ≤ v1_16 ∧ v1_16 < ((8 : Nat) : Int)))) rfl ⟨trivial, ⟨by omega, by omega⟩⟩ ?_
              refine gr_st hI47 FI47 rfl rfl ⟨⟨by show 0 ≤ _; omega, by show _ ≤ 48; omega⟩, trivial⟩ (fun I57 hI57 FI57 q58 p58 => ?_)
              have t59 := p58 0 71 (fun q => absurd q.1 (by decide))
              have t60 := p58 0 72 (fun q => absurd q.1 (by decide))
              have t61 := p58 0 73 (fun q => absurd q.1 (by decide))
              have t62 := p58 0 69 (fun q => absurd q.1 (by decide))
              have t63 := p58 0 6 (fun q => absurd q.1 (by decide))
              have t64 := p58 13 (Int.toNat v1_16) (fun q => absurd q.1 (by decide))
              have f65 := (show 0 ≤ I57 0 71 ∧ I57 0 71 ≤ 5 from (hI57 0 71).1)
              have f66 := (show 0 ≤ I57 0 72 ∧ I57 0 72 ≤ 1000 from (hI57 0 72).1)
              have f67 := (show 0 ≤ I57 0 73 ∧ I57 0 73 ≤ 1001 from (hI57 0 73).1)
              have f68 := (show 0 ≤ I57 0 69 ∧ I57 0 69 ≤ 1000 from (hI57 0 69).1)
              have f69 := (show (-1) ≤ I57 0 6 ∧ I57 0 6 ≤ 7 from (hI57 0 6).1)
              have KVF_I57 := gr_VF_v KVF_I47 p58 (by omega)
              have t70 := KVF_I57 (Int.toNat v1_16) (by omega)
              refine gv_run 7 true hD (pc' := 284) (lv' := [(8, .inl ((48 * v1_16) + (I47 14 (Int.toNat v1_16)))), (0, .inr (.inr (some 0))), (1, .inl v1_16), (4, .inl v4_16), (6, .inl v6_49), (7, .inl v7_49)]) (st' := [.inr (.inr (some 62)), .inl ((48 * v1_16) + (I47 14 (Int.toNat v1_16))), .inr (.inr (some 21))]) (h' := gr_h I57 J48) (C := (((((((True ∧ True) ∧ True) ∧ True) ∧ True) ∧ True) ∧ True) ∧ True)) rfl ⟨⟨⟨⟨⟨⟨⟨trivial, trivial⟩, trivial⟩, trivial⟩, trivial⟩, trivial⟩, trivial⟩, trivial⟩ ?_
              refine gv_run 2 true hD (pc' := 287) (lv' := [(8, .inl ((48 * v1_16) + (I47 14 (Int.toNat v1_16)))), (0, .inr (.inr (some 0))), (1, .inl v1_16), (4, .inl v4_16), (6, .inl v6_49), (7, .inl v7_49)]) (st' := [.inr (.inl (J48 62 (Int.toNat v7_49))), .inl ((48 * v1_16) + (I47 14 (Int.toNat v1_16))), .inr (.inr (some 21))]) (h' := gr_h I57 J48) (C := ((True ∧ True) ∧ (0 ≤ v7_49 ∧ v7_49 < ((6 : Nat) : Int)))) rfl ⟨⟨trivial, trivial⟩, ⟨by omega, by omega⟩⟩ ?_
              refine gv_run 1 true hD (pc' := 288) (lv' := [(8, .inl ((48 * v1_16) + (I47 14 (Int.toNat v1_16)))), (0, .inr (.inr (some 0))), (1, .inl v1_16), (4, .inl v4_16), (6, .inl v6_49), (7, .inl v7_49)]) (st' := []) (h' := gz_up (gr_h I57 J48) 21 (Int.toNat (((48 * v1_16) + (I47 14 (Int.toNat v1_16))))) (.inr (.inl ((J48 62 (Int.toNat v7_49)))))) (C := (True ∧ (0 ≤ (((48 * v1_16) + (I47 14 (Int.toNat v1_16)))) ∧ (((48 * v1_16) + (I47 14 (Int.toNat v1_16)))) < ((384 : Nat) : Int)))) rfl ⟨trivial, ⟨by omega, by omega⟩⟩ ?_
              refine gr_stJ FJ48 rfl rfl (fun J71 FJ71 => ?_)
              refine gv_run 4 true hD (pc' := 296) (lv' := [(8, .inl ((48 * v1_16) + (I47 14 (Int.toNat v1_16)))), (0, .inr (.inr (some 0))), (1, .inl v1_16), (4, .inl v4_16), (6, .inl v6_49), (7, .inl v7_49)]) (st' := [.inl v6_49, .inl ((48 * v1_16) + (I47 14 (Int.toNat v1_16))), .inr (.inr (some 24))]) (h' := gr_h I57 J71) (C := ((((True ∧ True) ∧ True) ∧ True) ∧ True)) rfl ⟨⟨⟨⟨trivial, trivial⟩, trivial⟩, trivial⟩, trivial⟩ ?_
              refine gv_run 1 true hD (pc' := 297) (lv' := [(8, .inl ((48 * v1_16) + (I47 14 (Int.toNat v1_16)))), (0, .inr (.inr (some 0))), (1, .inl v1_16), (4, .inl v4_16), (6, .inl v6_49), (7, .inl v7_49)]) (st' := []) (h' := gz_up (gr_h I57 J71) 24 (Int.toNat (((48 * v1_16) + (I47 14 (Int.toNat v1_16))))) (.inl v6_49)) (C := (True ∧ (0 ≤ (((48 * v1_16) + (I47 14 (Int.toNat v1_16)))) ∧ (((48 * v1_16) + (I47 14 (Int.toNat v1_16)))) < ((384 : Nat) : Int)))) rfl ⟨trivial, ⟨by omega, by omega⟩⟩ ?_
              refine gr_st hI57 FI57 rfl rfl ⟨⟨by show 0 ≤ _; omega, by show _ ≤ 7; omega⟩, trivial⟩ (fun I72 hI72 FI72 q73 p73 => ?_)
              have t74 := p73 0 71 (fun q => absurd q.1 (by decide))
              have t75 := p73 0 72 (fun q => absurd q.1 (by decide))
              have t76 := p73 0 73 (fun q => absurd q.1 (by decide))
              have t77 := p73 0 69 (fun q => absurd q.1 (by decide))
              have t78 := p73 0 6 (fun q => absurd q.1 (by decide))
              have t79 := p73 13 (Int.toNat v1_16) (fun q => absurd q.1 (by decide))
              have t80 := p73 14 (Int.toNat v1_16) (fun q => absurd q.1 (by decide))
              have f81 := (show 0 ≤ I72 0 71 ∧ I72 0 71 ≤ 5 from (hI72 0 71).1)
              have f82 := (show 0 ≤ I72 0 72 ∧ I72 0 72 ≤ 1000 from (hI72 0 72).1)
              have f83 := (show 0 ≤ I72 0 73 ∧ I72 0 73 ≤ 1001 from (hI72 0 73).1)
              have f84 := (show 0 ≤ I72 0 69 ∧ I72 0 69 ≤ 1000 from (hI72 0 69).1)
              have f85 := (show (-1) ≤ I72 0 6 ∧ I72 0 6 ≤ 7 from (hI72 0 6).1)
              have KVF_I72 := gr_VF_fr KVF_I57 (fun k => p73 14 k (fun q => absurd q.1 (by decide))) (fun k => p73 13 k (fun q => absurd q.1 (by decide)))
              have t86 := KVF_I72 (Int.toNat v1_16) (by omega)
              refine gv_run 6 true hD (pc' := 307) (lv' := [(8, .inl ((48 * v1_16) + (I47 14 (Int.toNat v1_16)))), (0, .inr (.inr (some 0))), (1, .inl v1_16), (4, .inl v4_16), (6, .inl v6_49), (7, .inl v7_49)]) (st' := [.inl (v7_49 + 1), .inl ((48 * v1_16) + (I47 14 (Int.toNat v1_16))), .inr (.inr (some 25))]) (h' := gr_h I72 J71) (C := ((((((True ∧ True) ∧ True) ∧ True) ∧ True) ∧ True) ∧ True)) rfl ⟨⟨⟨⟨⟨⟨trivial, trivial⟩, trivial⟩, trivial⟩, trivial⟩, trivial⟩, trivial⟩ ?_
              refine gv_run 1 true hD (pc' := 308) (lv' := [(8, .inl ((48 * v1_16) + (I47 14 (Int.toNat v1_16)))), (0, .inr (.inr (some 0))), (1, .inl v1_16), (4, .inl v4_16), (6, .inl v6_49), (7, .inl v7_49)]) (st' := []) (h' := gz_up (gr_h I72 J71) 25 (Int.toNat (((48 * v1_16) + (I47 14 (Int.toNat v1_16))))) (.inl (v7_49 + 1))) (C := (True ∧ (0 ≤ (((48 * v1_16) + (I47 14 (Int.toNat v1_16)))) ∧ (((48 * v1_16) + (I47 14 (Int.toNat v1_16)))) < ((384 : Nat) : Int)))) rfl ⟨trivial, ⟨by omega, by omega⟩⟩ ?_
              refine gr_st hI72 FI72 rfl rfl ⟨⟨by show 0 ≤ _; omega, by show _ ≤ 6; omega⟩, trivial⟩ (fun I87 hI87 FI87 q88 p88 => ?_)
              have t89 := p88 0 71 (fun q => absurd q.1 (by decide))
              have t90 := p88 0 72 (fun q => absurd q.1 (by decide))
              have t91 := p88 0 73 (fun q => absurd q.1 (by decide))
              have t92 := p88 0 69 (fun q => absurd q.1 (by decide))
              have t93 := p88 0 6 (fun q => absurd q.1 (by decide))
              have t94 := p88 13 (Int.toNat v1_16) (fun q => absurd q.1 (by decide))
              have t95 := p88 14 (Int.toNat v1_16) (fun q => absurd q.1 (by decide))
              have f96 := (show 0 ≤ I87 0 71 ∧ I87 0 71 ≤ 5 from (hI87 0 71).1)
              have f97 := (show 0 ≤ I87 0 72 ∧ I87 0 72 ≤ 1000 from (hI87 0 72).1)
              have f98 := (show 0 ≤ I87 0 73 ∧ I87 0 73 ≤ 1001 from (hI87 0 73).1)
              have f99 := (show 0 ≤ I87 0 69 ∧ I87 0 69 ≤ 1000 from (hI87 0 69).1)
              have f100 := (show (-1) ≤ I87 0 6 ∧ I87 0 6 ≤ 7 from (hI87 0 6).1)
              have KVF_I87 := gr_VF_fr KVF_I72 (fun k => p88 14 k (fun q => absurd q.1 (by decide))) (fun k => p88 13 k (fun q => absurd q.1 (by decide)))
              have t101 := KVF_I87 (Int.toNat v1_16) (by omega)
              refine gv_run 2 true hD (pc' := 249) (lv' := [(7, .inl (v7_49 + 1)), (8, .inl ((48 * v1_16) + (I47 14 (Int.toNat v1_16)))), (0, .inr (.inr (some 0))), (1, .inl v1_16), (4, .inl v4_16), (6, .inl v6_49)]) (st' := []) (h' := gr_h I87 J71) (C := ((True ∧ True) ∧ True)) rfl ⟨⟨trivial, trivial⟩, trivial⟩ ?_
              refine gv_pick [2, 3, 4, 5, 0] rfl ?_
              exact ih249 I87 J71 v6_49 (v7_49 + 1) (by omega) hI87 FI87 FJ71 KVF_I87 ⟨by omega, by omega⟩ ⟨by omega, by omega⟩ ⟨by omega, by omega⟩ ⟨by omega, by omega⟩ (by omega) (by omega) (by omega) (by omega) (by omega) (by omega) (by omega) (by omega) (by omega) (by omega) (by omega)
        obtain ⟨r102, h102, E102, P102⟩ := r_done (ws0 := ws0) (tb := tb) hws htb ext I14 J15 hI14 s1_41 ⟨by omega, by omega⟩ (by omega) (by omega) (by omega) (by omega) (by omega)
        obtain ⟨I103, J104, rfl, hI103, g102, k102, ⟨z102, rfl, q102⟩⟩ := P102
        have FI103 := gr_frt FI14 g102 rfl rfl
        have FJ104 := gr_fjt FJ15 k102 rfl rfl
        have t105 := g102 0 69 rfl
        have t106 := g102 0 6 rfl
        have t107 := g102 13 (Int.toNat v1_16) rfl
        have t108 := g102 14 (Int.toNat v1_16) rfl
        have f109 := (show 0 ≤ I103 0 71 ∧ I103 0 71 ≤ 5 from (hI103 0 71).1)
        have f110 := (show 0 ≤ I103 0 72 ∧ I103 0 72 ≤ 1000 from (hI103 0 72).1)
        have f111 := (show 0 ≤ I103 0 73 ∧ I103 0 73 ≤ 1001 from (hI103 0 73).1)
        have f112 := (show 0 ≤ I103 0 69 ∧ I103 0 69 ≤ 1000 from (hI103 0 69).1)
        have f113 := (show (-1) ≤ I103 0 6 ∧ I103 0 6 ≤ 7 from (hI103 0 6).1)
        have KVF_I103 := gr_VF_fr KVF_I14 (fun k => g102 14 k rfl) (fun k => g102 13 k rfl)
        have t114 := KVF_I103 (Int.toNat v1_16) (by omega)
        refine gv_callV hD rfl (As := [.inl s1_41]) (st := []) rfl (by decide) rfl rfl (gr_lV hws rfl) (Nat.le_of_ble_eq_true rfl) (gz_Ev_mono (d := 11) (by decide) E102) ?_
        show gv_X _ _ (215, [(0, .inr (.inr (some 0))), (1, .inl v1_16), (2, .inr (.inl v2_16)), (4, .inl v4_16)], [.inl z102], gr_sh ++ ext, gr_h I103 J104)
        refine gv_if_ne (t := 220) hD rfl rfl ⟨by omega, by omega⟩ (fun c115 => ?_) (fun c115 => ?_)
        · have f116 := (show 0 ≤ I103 13 (Int.toNat v1_16) ∧ I103 13 (Int.toNat v1_16) ≤ 8 from (hI103 13 (Int.toNat v1_16)).1)
          refine gv_run 5 true hD (pc' := 227) (lv' := [(0, .inr (.inr (some 0))), (1, .inl v1_16), (2, .inr (.inl v2_16)), (4, .inl v4_16)]) (st' := [.inl (I103 13 (Int.toNat v1_16)), .inl v1_16, .inr (.inr (some 13))]) (h' := gr_h I103 J104) (C := (((((True ∧ True) ∧ True) ∧ True) ∧ True) ∧ (0 ≤ v1_16 ∧ v1_16 < ((8 : Nat) : Int)))) rfl ⟨⟨⟨⟨⟨trivial, trivial⟩, trivial⟩, trivial⟩, trivial⟩, ⟨by omega, by omega⟩⟩ ?_
          refine gv_run 3 true hD (pc' := 230) (lv' := [(0, .inr (.inr (some 0))), (1, .inl v1_16), (2, .inr (.inl v2_16)), (4, .inl v4_16)]) (st' := [.inl ((I103 13 (Int.toNat v1_16)) + 1), .inl v1_16, .inr (.inr (some 13)), .inl (I103 13 (Int.toNat v1_16))]) (h' := gr_h I103 J104) (C := (((True ∧ True) ∧ True) ∧ True)) rfl ⟨⟨⟨trivial, trivial⟩, trivial⟩, trivial⟩ ?_
          refine gv_run 1 true hD (pc' := 231) (lv' := [(0, .inr (.inr (some 0))), (1, .inl v1_16), (2, .inr (.inl v2_16)), (4, .inl v4_16)]) (st' := [.inl (I103 13 (Int.toNat v1_16))]) (h' := gz_up (gr_h I103 J104) 13 (Int.toNat v1_16) (.inl (((I103 13 (Int.toNat v1_16)) + 1)))) (C := (True ∧ (0 ≤ v1_16 ∧ v1_16 < ((8 : Nat) : Int)))) rfl ⟨trivial, ⟨by omega, by omega⟩⟩ ?_
          refine gr_st hI103 FI103 rfl rfl ⟨⟨by show 0 ≤ _; omega, by show _ ≤ 8; omega⟩, trivial⟩ (fun I117 hI117 FI117 q118 p118 => ?_)
          have t119 := p118 0 71 (fun q => absurd q.1 (by decide))
          have t120 := p118 0 72 (fun q => absurd q.1 (by decide))
          have t121 := p118 0 73 (fun q => absurd q.1 (by decide))
          have t122 := p118 0 69 (fun q => absurd q.1 (by decide))
          have t123 := p118 0 6 (fun q => absurd q.1 (by decide))
          have t124 := p118 14 (Int.toNat v1_16) (fun q => absurd q.1 (by decide))
          have f125 := (show 0 ≤ I117 0 71 ∧ I117 0 71 ≤ 5 from (hI117 0 71).1)
          have f126 := (show 0 ≤ I117 0 72 ∧ I117 0 72 ≤ 1000 from (hI117 0 72).1)
          have f127 := (show 0 ≤ I117 0 73 ∧ I117 0 73 ≤ 1001 from (hI117 0 73).1)
          have f128 := (show 0 ≤ I117 0 69 ∧ I117 0 69 ≤ 1000 from (hI117 0 69).1)
          have f129 := (show (-1) ≤ I117 0 6 ∧ I117 0 6 ≤ 7 from (hI117 0 6).1)
          have KVF_I117 := gr_VF_f KVF_I103 p118 (by omega)
          have t130 := KVF_I117 (Int.toNat v1_16) (by omega)
          refine gv_run 7 true hD (pc' := 243) (lv' := [(6, .inl (I103 13 (Int.toNat v1_16))), (0, .inr (.inr (some 0))), (1, .inl v1_16), (2, .inr (.inl v2_16)), (4, .inl v4_16)]) (st' := [.inl (I103 13 (Int.toNat v1_16)), .inl (8 * v1_16), .inr (.inr (some 20))]) (h' := gr_h I117 J104) (C := (((((((True ∧ True) ∧ True) ∧ True) ∧ True) ∧ True) ∧ True) ∧ True)) rfl ⟨⟨⟨⟨⟨⟨⟨trivial, trivial⟩, trivial⟩, trivial⟩, trivial⟩, trivial⟩, trivial⟩, trivial⟩ ?_
          refine gv_run 3 true hD (pc' := 246) (lv' := [(6, .inl (I103 13 (Int.toNat v1_16))), (0, .inr (.inr (some 0))), (1, .inl v1_16), (2, .inr (.inl v2_16)), (4, .inl v4_16)]) (st' := []) (h' := gz_up (gr_h I117 J104) 20 (Int.toNat (((8 * v1_16) + (I103 13 (Int.toNat v1_16))))) (.inr (.inl v2_16))) (C := (((True ∧ True) ∧ True) ∧ (0 ≤ (((8 * v1_16) + (I103 13 (Int.toNat v1_16)))) ∧ (((8 * v1_16) + (I103 13 (Int.toNat v1_16)))) < ((64 : Nat) : Int)))) rfl ⟨⟨⟨trivial, trivial⟩, trivial⟩, ⟨by omega, by omega⟩⟩ ?_
          refine gr_stJ FJ104 rfl rfl (fun J131 FJ131 => ?_)
          refine gv_run 2 true hD (pc' := 249) (lv' := [(7, .inl 0), (6, .inl (I103 13 (Int.toNat v1_16))), (0, .inr (.inr (some 0))), (1, .inl v1_16), (2, .inr (.inl v2_16)), (4, .inl v4_16)]) (st' := []) (h' := gr_h I117 J131) (C := ((True ∧ True) ∧ True)) rfl ⟨⟨trivial, trivial⟩, trivial⟩ ?_
          refine gv_pick [2, 3, 5, 1, 0] rfl ?_
          exact L249 _ I117 J131 ((I103 13 (Int.toNat v1_16))) 0 (Nat.lt_succ_self _) hI117 FI117 FJ131 KVF_I117 ⟨by omega, by omega⟩ ⟨by omega, by omega⟩ ⟨by omega, by omega⟩ ⟨by omega, by omega⟩ (by omega) (by omega) (by omega) (by omega) (by omega) (by omega) (by omega) (by omega) (by omega) (by omega) (by omega)
        · refine gv_run 1 true hD (pc' := 219) (lv' := [(0, .inr (.inr (some 0))), (1, .inl v1_16), (2, .inr (.inl v2_16)), (4, .inl v4_16)]) (st' := [.inl 0]) (h' := gr_h I103 J104) (C := (True ∧ True)) rfl ⟨trivial, trivial⟩ ?_
          exact gv_zret hD rfl (by omega) ⟨I103, J104, rfl, hI103, FI103, FJ104, KVF_I103, ⟨_, rfl, by omega, by omega, by omega, by omega, by omega, by omega, by omega, by omega, by omega, by omega⟩⟩
      have f132 := (show 0 ≤ I14 0 71 ∧ I14 0 71 ≤ 5 from (hI14 0 71).1)
      refine gv_run 3 true hD (pc' := 82) (lv' := [(0, .inr (.inr (some 0))), (1, .inl v1_16), (2, .inr (.inl v2_16)), (4, .inl v4_16), (5, .inl v5_16)]) (st' := [.inl 1, .inl (I14 0 71)]) (h' := gr_h I14 J15) (C := (((True ∧ True) ∧ True) ∧ True)) rfl ⟨⟨⟨trivial, trivial⟩, trivial⟩, trivial⟩ ?_
      refine gv_icmp_ne (t := 166) hD rfl rfl ⟨⟨by omega, by omega⟩, ⟨by omega, by omega⟩⟩ (fun c133 => ?_) (fun c133 => ?_)
      · refine gv_run 2 true hD (pc' := 169) (lv' := [(0, .inr (.inr (some 0))), (1, .inl v1_16), (2, .inr (.inl v2_16)), (4, .inl v4_16), (5, .inl v5_16)]) (st' := [.inl 59, .inr (.inr (some 0))]) (h' := gr_h I14 J15) (C := ((True ∧ True) ∧ True)) rfl ⟨⟨trivial, trivial⟩, trivial⟩ ?_
        obtain ⟨r134, h134, E134, P134⟩ := r_sign (ws0 := ws0) (tb := tb) hws htb ext I14 J15 hI14 59 ⟨by omega, by omega⟩ (by omega)
        obtain ⟨rfl, ⟨z134, rfl, q134⟩⟩ := P134
        refine gv_callV hD rfl (As := [.inl 59]) (st := []) rfl (by decide) rfl rfl (gr_lV hws rfl) (Nat.le_of_ble_eq_true rfl) (gz_Ev_mono (d := 1) (by decide) E134) ?_
        show gv_X _ _ (172, [(0, .inr (.inr (some 0))), (1, .inl v1_16), (2, .inr (.inl v2_16)), (4, .inl v4_16), (5, .inl v5_16)], [.inl z134], gr_sh ++ ext, gr_h I14 J15)
        refine gv_if_ne (t := 181) hD rfl rfl ⟨by omega, by omega⟩ (fun c135 => ?_) (fun c135 => ?_)
        · refine gv_run 2 true hD (pc' := 184) (lv' := [(0, .inr (.inr (some 0))), (1, .inl v1_16), (2, .inr (.inl v2_16)), (4, .inl v4_16), (5, .inl v5_16)]) (st' := [.inl 1, .inl v4_16]) (h' := gr_h I14 J15) (C := ((True ∧ True) ∧ True)) rfl ⟨⟨trivial, trivial⟩, trivial⟩ ?_
          refine gv_icmp_ne (t := 195) hD rfl rfl ⟨⟨by omega, by omega⟩, ⟨by omega, by omega⟩⟩ (fun c136 => ?_) (fun c136 => ?_)
          · have f137 := (show 0 ≤ I14 13 (Int.toNat v1_16) ∧ I14 13 (Int.toNat v1_16) ≤ 8 from (hI14 13 (Int.toNat v1_16)).1)
            refine gv_run 5 true hD (pc' := 202) (lv' := [(0, .inr (.inr (some 0))), (1, .inl v1_16), (2, .inr (.inl v2_16)), (4, .inl v4_16), (5, .inl v5_16)]) (st' := [.inl (I14 13 (Int.toNat v1_16)), .inr (.inr (some 0))]) (h' := gr_h I14 J15) (C := (((((True ∧ True) ∧ True) ∧ True) ∧ True) ∧ (0 ≤ v1_16 ∧ v1_16 < ((8 : Nat) : Int)))) rfl ⟨⟨⟨⟨⟨trivial, trivial⟩, trivial⟩, trivial⟩, trivial⟩, ⟨by omega, by omega⟩⟩ ?_
            refine gv_run 1 true hD (pc' := 204) (lv' := [(0, .inr (.inr (some 0))), (1, .inl v1_16), (2, .inr (.inl v2_16)), (4, .inl v4_16), (5, .inl v5_16)]) (st' := [.inl 8, .inl (I14 13 (Int.toNat v1_16)), .inr (.inr (some 0))]) (h' := gr_h I14 J15) (C := (True ∧ True)) rfl ⟨trivial, trivial⟩ ?_
            refine gv_icmp_ge (t := 211) hD rfl rfl ⟨⟨by omega, by omega⟩, ⟨by omega, by omega⟩⟩ (fun c138 => ?_) (fun c138 => ?_)
            · refine gv_run 1 true hD (pc' := 212) (lv' := [(0, .inr (.inr (some 0))), (1, .inl v1_16), (2, .inr (.inl v2_16)), (4, .inl v4_16), (5, .inl v5_16)]) (st' := [.inl 0, .inr (.inr (some 0))]) (h' := gr_h I14 J15) (C := (True ∧ True)) rfl ⟨trivial, trivial⟩ ?_
              refine gv_pick [0, 1, 2, 3] rfl ?_
              exact L212 0 ⟨by omega, by omega⟩ ⟨by omega, by omega⟩ ⟨by omega, by omega⟩ (by omega) (by omega) (by omega) (by omega) (by omega) (by omega) (by omega) (by omega) (by omega) (by omega)
            · refine gv_run 2 true hD (pc' := 212) (lv' := [(0, .inr (.inr (some 0))), (1, .inl v1_16), (2, .inr (.inl v2_16)), (4, .inl v4_16), (5, .inl v5_16)]) (st' := [.inl 1, .inr (.inr (some 0))]) (h' := gr_h I14 J15) (C := ((True ∧ True) ∧ True)) rfl ⟨⟨trivial, trivial⟩, trivial⟩ ?_
              refine gv_pick [0, 1, 2, 3] rfl ?_
              exact L212 1 ⟨by omega, by omega⟩ ⟨by omega, by omega⟩ ⟨by omega, by omega⟩ (by omega) (by omega) (by omega) (by omega) (by omega) (by omega) (by omega) (by omega) (by omega) (by omega)
          · refine gv_run 3 true hD (pc' := 191) (lv' := [(0, .inr (.inr (some 0))), (1, .inl v1_16), (2, .inr (.inl v2_16)), (4, .inl v4_16), (5, .inl v5_16)]) (st' := [.inl v5_16, .inl 5, .inr (.inr (some 0))]) (h' := gr_h I14 J15) (C := (((True ∧ True) ∧ True) ∧ True)) rfl ⟨⟨⟨trivial, trivial⟩, trivial⟩, trivial⟩ ?_
            obtain ⟨r139, h139, E139, P139⟩ := r_no (ws0 := ws0) (tb := tb) hws htb ext I14 J15 hI14 5 v5_16 ⟨by omega, by omega⟩ ⟨by omega, by omega⟩ 
            obtain ⟨I140, J141, rfl, hI140, g139, k139, ⟨z139, rfl, q139⟩⟩ := P139
            have FI140 := gr_frt FI14 g139 rfl rfl
            have FJ141 := gr_fjt FJ15 k139 rfl rfl
            have t142 := g139 0 71 rfl
            have t143 := g139 0 72 rfl
            have t144 := g139 0 73 rfl
            have t145 := g139 0 69 rfl
            have t146 := g139 0 6 rfl
            have t147 := g139 13 (Int.toNat v1_16) rfl
            have t148 := g139 14 (Int.toNat v1_16) rfl
            have f149 := (show 0 ≤ I140 0 71 ∧ I140 0 71 ≤ 5 from (hI140 0 71).1)
            have f150 := (show 0 ≤ I140 0 72 ∧ I140 0 72 ≤ 1000 from (hI140 0 72).1)
            have f151 := (show 0 ≤ I140 0 73 ∧ I140 0 73 ≤ 1001 from (hI140 0 73).1)
            have f152 := (show 0 ≤ I140 0 69 ∧ I140 0 69 ≤ 1000 from (hI140 0 69).1)
            have f153 := (show (-1) ≤ I140 0 6 ∧ I140 0 6 ≤ 7 from (hI140 0 6).1)
            have KVF_I140 := gr_VF_fr KVF_I14 (fun k => g139 14 k rfl) (fun k => g139 13 k rfl)
            have t154 := KVF_I140 (Int.toNat v1_16) (by omega)
            refine gv_callV hD rfl (As := [.inl 5, .inl v5_16]) (st := []) rfl (by decide) rfl rfl (gr_lV hws rfl) (Nat.le_of_ble_eq_true rfl) (gz_Ev_mono (d := 1) (by decide) E139) ?_
            show gv_X _ _ (194, [(0, .inr (.inr (some 0))), (1, .inl v1_16), (2, .inr (.inl v2_16)), (4, .inl v4_16), (5, .inl v5_16)], [.inl z139], gr_sh ++ ext, gr_h I140 J141)
            exact gv_zret hD rfl (by omega) ⟨I140, J141, rfl, hI140, FI140, FJ141, KVF_I140, ⟨_, rfl, by omega, by omega, by omega, by omega, by omega, by omega, by omega, by omega, by omega, by omega⟩⟩
        · refine gv_run 2 true hD (pc' := 177) (lv' := [(0, .inr (.inr (some 0))), (1, .inl v1_16), (2, .inr (.inl v2_16)), (4, .inl v4_16), (5, .inl v5_16)]) (st' := [.inl 1, .inr (.inr (some 0))]) (h' := gr_h I14 J15) (C := ((True ∧ True) ∧ True)) rfl ⟨⟨trivial, trivial⟩, trivial⟩ ?_
          obtain ⟨r155, h155, E155, P155⟩ := r_no_ (ws0 := ws0) (tb := tb) hws htb ext I14 J15 hI14 1 ⟨by omega, by omega⟩ 
          obtain ⟨I156, J157, rfl, hI156, g155, k155, ⟨z155, rfl, q155⟩⟩ := P155
          have FI156 := gr_frt FI14 g155 rfl rfl
          have FJ157 := gr_fjt FJ15 k155 rfl rfl
          have t158 := g155 0 71 rfl
          have t159 := g155 0 72 rfl
          have t160 := g155 0 73 rfl
          have t161 := g155 0 69 rfl
          have t162 := g155 0 6 rfl
          have t163 := g155 13 (Int.toNat v1_16) rfl
          have t164 := g155 14 (Int.toNat v1_16) rfl
          have f165 := (show 0 ≤ I156 0 71 ∧ I156 0 71 ≤ 5 from (hI156 0 71).1)
          have f166 := (show 0 ≤ I156 0 72 ∧ I156 0 72 ≤ 1000 from (hI156 0 72).1)
          have f167 := (show 0 ≤ I156 0 73 ∧ I156 0 73 ≤ 1001 from (hI156 0 73).1)
          have f168 := (show 0 ≤ I156 0 69 ∧ I156 0 69 ≤ 1000 from (hI156 0 69).1)
          have f169 := (show (-1) ≤ I156 0 6 ∧ I156 0 6 ≤ 7 from (hI156 0 6).1)
          have KVF_I156 := gr_VF_fr KVF_I14 (fun k => g155 14 k rfl) (fun k => g155 13 k rfl)
          have t170 := KVF_I156 (Int.toNat v1_16) (by omega)
          refine gv_callV hD rfl (As := [.inl 1]) (st := []) rfl (by decide) rfl rfl (gr_lV hws rfl) (Nat.le_of_ble_eq_true rfl) (gz_Ev_mono (d := 2) (by decide) E155) ?_
          show gv_X _ _ (180, [(0, .inr (.inr (some 0))), (1, .inl v1_16), (2, .inr (.inl v2_16)), (4, .inl v4_16), (5, .inl v5_16)], [.inl z155], gr_sh ++ ext, gr_h I156 J157)
          exact gv_zret hD rfl (by omega) ⟨I156, J157, rfl, hI156, FI156, FJ157, KVF_I156, ⟨_, rfl, by omega, by omega, by omega, by omega, by omega, by omega, by omega, by omega, by omega, by omega⟩⟩
      · refine gv_run 2 true hD (pc' := 89) (lv' := [(0, .inr (.inr (some 0))), (1, .inl v1_16), (2, .inr (.inl v2_16)), (4, .inl v4_16), (5, .inl v5_16)]) (st' := [.inl 6, .inl v4_16]) (h' := gr_h I14 J15) (C := ((True ∧ True) ∧ True)) rfl ⟨⟨trivial, trivial⟩, trivial⟩ ?_
        refine gv_icmp_ne (t := 98) hD rfl rfl ⟨⟨by omega, by omega⟩, ⟨by omega, by omega⟩⟩ (fun c171 => ?_) (fun c171 => ?_)
        · refine gv_run 7 true hD (pc' := 110) (lv' := [(0, .inr (.inr (some 0))), (1, .inl v1_16), (2, .inr (.inl v2_16)), (4, .inl v4_16), (5, .inl v5_16)]) (st' := [.inr (.inr (some 14)), .inl (48 * v1_16), .inr (.inr (some 21))]) (h' := gr_h I14 J15) (C := (((((((True ∧ True) ∧ True) ∧ True) ∧ True) ∧ True) ∧ True) ∧ True)) rfl ⟨⟨⟨⟨⟨⟨⟨trivial, trivial⟩, trivial⟩, trivial⟩, trivial⟩, trivial⟩, trivial⟩, trivial⟩ ?_
          have f172 := (show 0 ≤ I14 14 (Int.toNat v1_16) ∧ I14 14 (Int.toNat v1_16) ≤ 48 from (hI14 14 (Int.toNat v1_16)).1)
          refine gv_run 2 true hD (pc' := 112) (lv' := [(0, .inr (.inr (some 0))), (1, .inl v1_16), (2, .inr (.inl v2_16)), (4, .inl v4_16), (5, .inl v5_16)]) (st' := [.inl (I14 14 (Int.toNat v1_16)), .inl (48 * v1_16), .inr (.inr (some 21))]) (h' := gr_h I14 J15) (C := ((True ∧ True) ∧ (0 ≤ v1_16 ∧ v1_16 < ((8 : Nat) : Int)))) rfl ⟨⟨trivial, trivial⟩, ⟨by omega, by omega⟩⟩ ?_
          refine gv_run 2 true hD (pc' := 116) (lv' := [(0, .inr (.inr (some 0))), (1, .inl v1_16), (2, .inr (.inl v2_16)), (4, .inl v4_16), (5, .inl v5_16)]) (st' := [.inr (.inl (J15 0 75)), .inl (I14 14 (Int.toNat v1_16)), .inl (48 * v1_16), .inr (.inr (some 21))]) (h' := gr_h I14 J15) (C := ((True ∧ True) ∧ True)) rfl ⟨⟨trivial, trivial⟩, trivial⟩ ?_
          obtain ⟨r173, h173, E173, P173⟩ := r_find_21 (ws0 := ws0) (tb := tb) hws htb ext I14 J15 hI14 (48 * v1_16) ((I14 14 (Int.toNat v1_16))) (J15 0 75) ⟨by omega, by omega⟩ ⟨by omega, by omega⟩ (by omega)
          obtain ⟨rfl, ⟨z173, rfl, q173⟩⟩ := P173
          refine gv_callS hD rfl (As := [.inr (.inr (some 21)), .inl (48 * v1_16), .inl (I14 14 (Int.toNat v1_16)), .inr (.inl (J15 0 75))]) (st := []) rfl (gr_lS hws rfl) (Nat.le_of_ble_eq_true rfl) (gz_Ev_mono (d := 1) (by decide) E173) ?_
          show gv_X _ _ (119, [(0, .inr (.inr (some 0))), (1, .inl v1_16), (2, .inr (.inl v2_16)), (4, .inl v4_16), (5, .inl v5_16)], [.inl z173], gr_sh ++ ext, gr_h I14 J15)
          refine gv_if_ge (t := 139) hD rfl rfl ⟨by omega, by omega⟩ (fun c174 => ?_) (fun c174 => ?_)
          · refine gv_pick [0] rfl ?_
            exact L139 (by omega) (by omega) (by omega) (by omega) (by omega) (by omega) (by omega) (by omega) (by omega)
          · refine gv_run 6 true hD (pc' := 133) (lv' := [(0, .inr (.inr (some 0))), (1, .inl v1_16), (2, .inr (.inl v2_16)), (4, .inl v4_16), (5, .inl v5_16)]) (st' := [.inr (.inl (J15 0 75)), .inl v4_16, .inl 0, .inr (.inr (some 62))]) (h' := gr_h I14 J15) (C := ((((((True ∧ True) ∧ True) ∧ True) ∧ True) ∧ True) ∧ True)) rfl ⟨⟨⟨⟨⟨⟨trivial, trivial⟩, trivial⟩, trivial⟩, trivial⟩, trivial⟩, trivial⟩ ?_
            obtain ⟨r175, h175, E175, P175⟩ := r_find_62 (ws0 := ws0) (tb := tb) hws htb ext I14 J15 hI14 0 v4_16 (J15 0 75) ⟨by omega, by omega⟩ ⟨by omega, by omega⟩ (by omega)
            obtain ⟨rfl, ⟨z175, rfl, q175⟩⟩ := P175
            refine gv_callS hD rfl (As := [.inr (.inr (some 62)), .inl 0, .inl v4_16, .inr (.inl (J15 0 75))]) (st := []) rfl (gr_lS hws rfl) (Nat.le_of_ble_eq_true rfl) (gz_Ev_mono (d := 1) (by decide) E175) ?_
            show gv_X _ _ (136, [(0, .inr (.inr (some 0))), (1, .inl v1_16), (2, .inr (.inl v2_16)), (4, .inl v4_16), (5, .inl v5_16)], [.inl z175], gr_sh ++ ext, gr_h I14 J15)
            refine gv_if_lt (t := 145) hD rfl rfl ⟨by omega, by omega⟩ (fun c176 => ?_) (fun c176 => ?_)
            · refine gv_run 6 true hD (pc' := 158) (lv' := [(4, .inl (v4_16 + 1)), (0, .inr (.inr (some 0))), (1, .inl v1_16), (2, .inr (.inl v2_16)), (5, .inl v5_16)]) (st' := [.inr (.inl (J15 0 75)), .inl v4_16, .inr (.inr (some 62))]) (h' := gr_h I14 J15) (C := ((((((True ∧ True) ∧ True) ∧ True) ∧ True) ∧ True) ∧ True)) rfl ⟨⟨⟨⟨⟨⟨trivial, trivial⟩, trivial⟩, trivial⟩, trivial⟩, trivial⟩, trivial⟩ ?_
              refine gv_run 1 true hD (pc' := 159) (lv' := [(4, .inl (v4_16 + 1)), (0, .inr (.inr (some 0))), (1, .inl v1_16), (2, .inr (.inl v2_16)), (5, .inl v5_16)]) (st' := []) (h' := gz_up (gr_h I14 J15) 62 (Int.toNat v4_16) (.inr (.inl (J15 0 75)))) (C := (True ∧ (0 ≤ v4_16 ∧ v4_16 < ((6 : Nat) : Int)))) rfl ⟨trivial, ⟨by omega, by omega⟩⟩ ?_
              refine gr_stJ FJ15 rfl rfl (fun J177 FJ177 => ?_)
              refine gv_run 1 true hD (pc' := 160) (lv' := [(4, .inl (v4_16 + 1)), (0, .inr (.inr (some 0))), (1, .inl v1_16), (2, .inr (.inl v2_16)), (5, .inl v5_16)]) (st' := [.inr (.inr (some 0))]) (h' := gr_h I14 J177) (C := (True ∧ True)) rfl ⟨trivial, trivial⟩ ?_
              obtain ⟨r178, h178, E178, P178⟩ := r_next (ws0 := ws0) (tb := tb) hws htb ext I14 J177 hI14   (by omega)
              obtain ⟨I179, J180, rfl, hI179, g178, k178, ⟨rfl, q178⟩⟩ := P178
              have FI179 := gr_frt FI14 g178 rfl rfl
              have FJ180 := gr_fjt FJ177 k178 rfl rfl
              have t181 := g178 0 69 rfl
              have t182 := g178 0 6 rfl
              have t183 := g178 13 (Int.toNat v1_16) rfl
              have t184 := g178 14 (Int.toNat v1_16) rfl
              have f185 := (show 0 ≤ I179 0 71 ∧ I179 0 71 ≤ 5 from (hI179 0 71).1)
              have f186 := (show 0 ≤ I179 0 72 ∧ I179 0 72 ≤ 1000 from (hI179 0 72).1)
              have f187 := (show 0 ≤ I179 0 73 ∧ I179 0 73 ≤ 1001 from (hI179 0 73).1)
              have f188 := (show 0 ≤ I179 0 69 ∧ I179 0 69 ≤ 1000 from (hI179 0 69).1)
              have f189 := (show (-1) ≤ I179 0 6 ∧ I179 0 6 ≤ 7 from (hI179 0 6).1)
              have KVF_I179 := gr_VF_fr KVF_I14 (fun k => g178 14 k rfl) (fun k => g178 13 k rfl)
              have t190 := KVF_I179 (Int.toNat v1_16) (by omega)
              refine gv_callV hD rfl (As := []) (st := []) rfl (by decide) rfl rfl (gr_lV hws rfl) (Nat.le_of_ble_eq_true rfl) (gz_Ev_mono (d := 10) (by decide) E178) ?_
              show gv_X _ _ (163, [(4, .inl (v4_16 + 1)), (0, .inr (.inr (some 0))), (1, .inl v1_16), (2, .inr (.inl v2_16)), (5, .inl v5_16)], [], gr_sh ++ ext, gr_h I179 J180)
              refine gv_run 1 true hD (pc' := 77) (lv' := [(4, .inl (v4_16 + 1)), (0, .inr (.inr (some 0))), (1, .inl v1_16), (2, .inr (.inl v2_16)), (5, .inl v5_16)]) (st' := []) (h' := gr_h I179 J180) (C := (True ∧ True)) rfl ⟨trivial, trivial⟩ ?_
              refine gv_pick [1, 2, 3, 0, 4] rfl ?_
              exact ih77 I179 J180 v1_16 v2_16 (v4_16 + 1) v5_16 (by omega) hI179 FI179 FJ180 KVF_I179 ⟨by omega, by omega⟩ ⟨by omega, by omega⟩ ⟨by omega, by omega⟩ (by omega) (by omega) (by omega) (by omega) (by omega) (by omega) (by omega) (by omega) (by omega)
            · refine gv_pick [0] rfl ?_
              exact L139 (by omega) (by omega) (by omega) (by omega) (by omega) (by omega) (by omega) (by omega) (by omega)
        · refine gv_run 2 true hD (pc' := 94) (lv' := [(0, .inr (.inr (some 0))), (1, .inl v1_16), (2, .inr (.inl v2_16)), (4, .inl v4_16), (5, .inl v5_16)]) (st' := [.inl 5, .inr (.inr (some 0))]) (h' := gr_h I14 J15) (C := ((True ∧ True) ∧ True)) rfl ⟨⟨trivial, trivial⟩, trivial⟩ ?_
          obtain ⟨r191, h191, E191, P191⟩ := r_no_ (ws0 := ws0) (tb := tb) hws htb ext I14 J15 hI14 5 ⟨by omega, by omega⟩ 
          obtain ⟨I192, J193, rfl, hI192, g191, k191, ⟨z191, rfl, q191⟩⟩ := P191
          have FI192 := gr_frt FI14 g191 rfl rfl
          have FJ193 := gr_fjt FJ15 k191 rfl rfl
          have t194 := g191 0 71 rfl
          have t195 := g191 0 72 rfl
          have t196 := g191 0 73 rfl
          have t197 := g191 0 69 rfl
          have t198 := g191 0 6 rfl
          have t199 := g191 13 (Int.toNat v1_16) rfl
          have t200 := g191 14 (Int.toNat v1_16) rfl
          have f201 := (show 0 ≤ I192 0 71 ∧ I192 0 71 ≤ 5 from (hI192 0 71).1)
          have f202 := (show 0 ≤ I192 0 72 ∧ I192 0 72 ≤ 1000 from (hI192 0 72).1)
          have f203 := (show 0 ≤ I192 0 73 ∧ I192 0 73 ≤ 1001 from (hI192 0 73).1)
          have f204 := (show 0 ≤ I192 0 69 ∧ I192 0 69 ≤ 1000 from (hI192 0 69).1)
          have f205 := (show (-1) ≤ I192 0 6 ∧ I192 0 6 ≤ 7 from (hI192 0 6).1)
          have KVF_I192 := gr_VF_fr KVF_I14 (fun k => g191 14 k rfl) (fun k => g191 13 k rfl)
          have t206 := KVF_I192 (Int.toNat v1_16) (by omega)
          refine gv_callV hD rfl (As := [.inl 5]) (st := []) rfl (by decide) rfl rfl (gr_lV hws rfl) (Nat.le_of_ble_eq_true rfl) (gz_Ev_mono (d := 2) (by decide) E191) ?_
          show gv_X _ _ (97, [(0, .inr (.inr (some 0))), (1, .inl v1_16), (2, .inr (.inl v2_16)), (4, .inl v4_16), (5, .inl v5_16)], [.inl z191], gr_sh ++ ext, gr_h I192 J193)
          exact gv_zret hD rfl (by omega) ⟨I192, J193, rfl, hI192, FI192, FJ193, KVF_I192, ⟨_, rfl, by omega, by omega, by omega, by omega, by omega, by omega, by omega, by omega, by omega, by omega⟩⟩
  have f207 := (show (-1) ≤ I 0 6 ∧ I 0 6 ≤ 7 from (hI 0 6).1)
  refine gv_run 4 true hD (pc' := 6) (lv' := [(1, .inl (I 0 6)), (0, .inr (.inr (some 0)))]) (st' := [.inr (.inr (some 0))]) (h' := gr_h I J) (C := ((((True ∧ True) ∧ True) ∧ True) ∧ True)) rfl ⟨⟨⟨⟨trivial, trivial⟩, trivial⟩, trivial⟩, trivial⟩ ?_
  obtain ⟨r208, h208, E208, P208⟩ := r_name (ws0 := ws0) (tb := tb) hws htb ext I J hI   
  obtain ⟨I209, J210, rfl, hI209, g208, k208, ⟨z208, rfl, q208⟩⟩ := P208
  have FI209 := gr_frt FI g208 rfl rfl
  have FJ210 := gr_fjt FJ k208 rfl rfl
  have t211 := g208 0 71 rfl
  have t212 := g208 0 72 rfl
  have t213 := g208 0 73 rfl
  have t214 := g208 0 69 rfl
  have t215 := g208 0 6 rfl
  have t216 := g208 13 (Int.toNat ((I 0 6))) rfl
  have t217 := g208 14 (Int.toNat ((I 0 6))) rfl
  have f218 := (show 0 ≤ I209 0 71 ∧ I209 0 71 ≤ 5 from (hI209 0 71).1)
  have f219 := (show 0 ≤ I209 0 72 ∧ I209 0 72 ≤ 1000 from (hI209 0 72).1)
  have f220 := (show 0 ≤ I209 0 73 ∧ I209 0 73 ≤ 1001 from (hI209 0 73).1)
  have f221 := (show 0 ≤ I209 0 69 ∧ I209 0 69 ≤ 1000 from (hI209 0 69).1)
  have f222 := (show (-1) ≤ I209 0 6 ∧ I209 0 6 ≤ 7 from (hI209 0 6).1)
  have KVF_I209 := gr_VF_fr KVF_I (fun k => g208 14 k rfl) (fun k => g208 13 k rfl)
  have t223 := KVF_I209 (Int.toNat ((I 0 6))) (by omega)
  refine gv_callV hD rfl (As := []) (st := []) rfl (by decide) rfl rfl (gr_lV hws rfl) (Nat.le_of_ble_eq_true rfl) (gz_Ev_mono (d := 3) (by decide) E208) ?_
  show gv_X _ _ (9, [(1, .inl (I 0 6)), (0, .inr (.inr (some 0)))], [.inl z208], gr_sh ++ ext, gr_h I209 J210)
  refine gv_if_ne (t := 14) hD rfl rfl ⟨by omega, by omega⟩ (fun c224 => ?_) (fun c224 => ?_)
  · refine gv_run 7 true hD (pc' := 26) (lv' := [(2, .inr (.inl (J210 0 75))), (1, .inl (I 0 6)), (0, .inr (.inr (some 0)))]) (st' := [.inl (I 0 6), .inl 8, .inr (.inr (some 20))]) (h' := gr_h I209 J210) (C := (((((((True ∧ True) ∧ True) ∧ True) ∧ True) ∧ True) ∧ True) ∧ True)) rfl ⟨⟨⟨⟨⟨⟨⟨trivial, trivial⟩, trivial⟩, trivial⟩, trivial⟩, trivial⟩, trivial⟩, trivial⟩ ?_
    have f225 := (show 0 ≤ I209 13 (Int.toNat ((I 0 6))) ∧ I209 13 (Int.toNat ((I 0 6))) ≤ 8 from (hI209 13 (Int.toNat ((I 0 6)))).1)
    refine gv_run 5 true hD (pc' := 33) (lv' := [(2, .inr (.inl (J210 0 75))), (1, .inl (I 0 6)), (0, .inr (.inr (some 0)))]) (st' := [.inl (I209 13 (Int.toNat ((I 0 6)))), .inl (8 * (I 0 6)), .inr (.inr (some 20))]) (h' := gr_h I209 J210) (C := (((((True ∧ True) ∧ True) ∧ True) ∧ True) ∧ (0 ≤ (I 0 6) ∧ (I 0 6) < ((8 : Nat) : Int)))) rfl ⟨⟨⟨⟨⟨trivial, trivial⟩, trivial⟩, trivial⟩, trivial⟩, ⟨by omega, by omega⟩⟩ ?_
    refine gv_run 1 true hD (pc' := 34) (lv' := [(2, .inr (.inl (J210 0 75))), (1, .inl (I 0 6)), (0, .inr (.inr (some 0)))]) (st' := [.inr (.inl (J210 0 75)), .inl (I209 13 (Int.toNat ((I 0 6)))), .inl (8 * (I 0 6)), .inr (.inr (some 20))]) (h' := gr_h I209 J210) (C := (True ∧ True)) rfl ⟨trivial, trivial⟩ ?_
    obtain ⟨r226, h226, E226, P226⟩ := r_find_20 (ws0 := ws0) (tb := tb) hws htb ext I209 J210 hI209 ((8 * (I 0 6))) ((I209 13 (Int.toNat ((I 0 6))))) (J210 0 75) ⟨by omega, by omega⟩ ⟨by omega, by omega⟩ (by omega)
    obtain ⟨rfl, ⟨z226, rfl, q226⟩⟩ := P226
    refine gv_callS hD rfl (As := [.inr (.inr (some 20)), .inl (8 * (I 0 6)), .inl (I209 13 (Int.toNat ((I 0 6)))), .inr (.inl (J210 0 75))]) (st := []) rfl (gr_lS hws rfl) (Nat.le_of_ble_eq_true rfl) (gz_Ev_mono (d := 1) (by decide) E226) ?_
    show gv_X _ _ (37, [(2, .inr (.inl (J210 0 75))), (1, .inl (I 0 6)), (0, .inr (.inr (some 0)))], [.inl z226], gr_sh ++ ext, gr_h I209 J210)
    refine gv_if_lt (t := 46) hD rfl rfl ⟨by omega, by omega⟩ (fun c227 => ?_) (fun c227 => ?_)
    · refine gv_run 1 true hD (pc' := 47) (lv' := [(2, .inr (.inl (J210 0 75))), (1, .inl (I 0 6)), (0, .inr (.inr (some 0)))]) (st' := [.inr (.inr (some 0))]) (h' := gr_h I209 J210) (C := (True ∧ True)) rfl ⟨trivial, trivial⟩ ?_
      obtain ⟨r228, h228, E228, P228⟩ := r_next (ws0 := ws0) (tb := tb) hws htb ext I209 J210 hI209   (by omega)
      obtain ⟨I229, J230, rfl, hI229, g228, k228, ⟨rfl, q228⟩⟩ := P228
      have FI229 := gr_frt FI209 g228 rfl rfl
      have FJ230 := gr_fjt FJ210 k228 rfl rfl
      have t231 := g228 0 69 rfl
      have t232 := g228 0 6 rfl
      have t233 := g228 13 (Int.toNat ((I 0 6))) rfl
      have t234 := g228 14 (Int.toNat ((I 0 6))) rfl
      have f235 := (show 0 ≤ I229 0 71 ∧ I229 0 71 ≤ 5 from (hI229 0 71).1)
      have f236 := (show 0 ≤ I229 0 72 ∧ I229 0 72 ≤ 1000 from (hI229 0 72).1)
      have f237 := (show 0 ≤ I229 0 73 ∧ I229 0 73 ≤ 1001 from (hI229 0 73).1)
      have f238 := (show 0 ≤ I229 0 69 ∧ I229 0 69 ≤ 1000 from (hI229 0 69).1)
      have f239 := (show (-1) ≤ I229 0 6 ∧ I229 0 6 ≤ 7 from (hI229 0 6).1)
      have KVF_I229 := gr_VF_fr KVF_I209 (fun k => g228 14 k rfl) (fun k => g228 13 k rfl)
      have t240 := KVF_I229 (Int.toNat ((I 0 6))) (by omega)
      refine gv_callV hD rfl (As := []) (st := []) rfl (by decide) rfl rfl (gr_lV hws rfl) (Nat.le_of_ble_eq_true rfl) (gz_Ev_mono (d := 10) (by decide) E228) ?_
      show gv_X _ _ (50, [(2, .inr (.inl (J210 0 75))), (1, .inl (I 0 6)), (0, .inr (.inr (some 0)))], [], gr_sh ++ ext, gr_h I229 J230)
      refine gv_run 2 true hD (pc' := 53) (lv' := [(2, .inr (.inl (J210 0 75))), (1, .inl (I 0 6)), (0, .inr (.inr (some 0)))]) (st' := [.inl 61, .inr (.inr (some 0))]) (h' := gr_h I229 J230) (C := ((True ∧ True) ∧ True)) rfl ⟨⟨trivial, trivial⟩, trivial⟩ ?_
      obtain ⟨r241, h241, E241, P241⟩ := r_need (ws0 := ws0) (tb := tb) hws htb ext I229 J230 hI229 61 ⟨by omega, by omega⟩ (by omega) (by omega) (by omega) (by omega) (by omega)
      obtain ⟨I242, J243, rfl, hI242, g241, k241, ⟨z241, rfl, q241⟩⟩ := P241
      have FI242 := gr_frt FI229 g241 rfl rfl
      have FJ243 := gr_fjt FJ230 k241 rfl rfl
      have t244 := g241 0 69 rfl
      have t245 := g241 0 6 rfl
      have t246 := g241 13 (Int.toNat ((I 0 6))) rfl
      have t247 := g241 14 (Int.toNat ((I 0 6))) rfl
      have f248 := (show 0 ≤ I242 0 71 ∧ I242 0 71 ≤ 5 from (hI242 0 71).1)
      have f249 := (show 0 ≤ I242 0 72 ∧ I242 0 72 ≤ 1000 from (hI242 0 72).1)
      have f250 := (show 0 ≤ I242 0 73 ∧ I242 0 73 ≤ 1001 from (hI242 0 73).1)
      have f251 := (show 0 ≤ I242 0 69 ∧ I242 0 69 ≤ 1000 from (hI242 0 69).1)
      have f252 := (show (-1) ≤ I242 0 6 ∧ I242 0 6 ≤ 7 from (hI242 0 6).1)
      have KVF_I242 := gr_VF_fr KVF_I229 (fun k => g241 14 k rfl) (fun k => g241 13 k rfl)
      have t253 := KVF_I242 (Int.toNat ((I 0 6))) (by omega)
      refine gv_callV hD rfl (As := [.inl 61]) (st := []) rfl (by decide) rfl rfl (gr_lV hws rfl) (Nat.le_of_ble_eq_true rfl) (gz_Ev_mono (d := 11) (by decide) E241) ?_
      show gv_X _ _ (56, [(2, .inr (.inl (J210 0 75))), (1, .inl (I 0 6)), (0, .inr (.inr (some 0)))], [.inl z241], gr_sh ++ ext, gr_h I242 J243)
      refine gv_if_eq (t := 66) hD rfl rfl ⟨by omega, by omega⟩ (fun c254 => ?_) (fun c254 => ?_)
      · refine gv_pick [] rfl ?_
        exact L66 I242 J243 hI242 FI242 FJ243 KVF_I242 (by omega) (by omega) (by omega) (by omega) (by omega) (by omega) (by omega) (by omega) (by omega)
      · refine gv_run 1 true hD (pc' := 60) (lv' := [(2, .inr (.inl (J210 0 75))), (1, .inl (I 0 6)), (0, .inr (.inr (some 0)))]) (st' := [.inr (.inr (some 0))]) (h' := gr_h I242 J243) (C := (True ∧ True)) rfl ⟨trivial, trivial⟩ ?_
        obtain ⟨r255, h255, E255, P255⟩ := r_name (ws0 := ws0) (tb := tb) hws htb ext I242 J243 hI242   
        obtain ⟨I256, J257, rfl, hI256, g255, k255, ⟨z255, rfl, q255⟩⟩ := P255
        have FI256 := gr_frt FI242 g255 rfl rfl
        have FJ257 := gr_fjt FJ243 k255 rfl rfl
        have t258 := g255 0 71 rfl
        have t259 := g255 0 72 rfl
        have t260 := g255 0 73 rfl
        have t261 := g255 0 69 rfl
        have t262 := g255 0 6 rfl
        have t263 := g255 13 (Int.toNat ((I 0 6))) rfl
        have t264 := g255 14 (Int.toNat ((I 0 6))) rfl
        have f265 := (show 0 ≤ I256 0 71 ∧ I256 0 71 ≤ 5 from (hI256 0 71).1)
        have f266 := (show 0 ≤ I256 0 72 ∧ I256 0 72 ≤ 1000 from (hI256 0 72).1)
        have f267 := (show 0 ≤ I256 0 73 ∧ I256 0 73 ≤ 1001 from (hI256 0 73).1)
        have f268 := (show 0 ≤ I256 0 69 ∧ I256 0 69 ≤ 1000 from (hI256 0 69).1)
        have f269 := (show (-1) ≤ I256 0 6 ∧ I256 0 6 ≤ 7 from (hI256 0 6).1)
        have KVF_I256 := gr_VF_fr KVF_I242 (fun k => g255 14 k rfl) (fun k => g255 13 k rfl)
        have t270 := KVF_I256 (Int.toNat ((I 0 6))) (by omega)
        refine gv_callV hD rfl (As := []) (st := []) rfl (by decide) rfl rfl (gr_lV hws rfl) (Nat.le_of_ble_eq_true rfl) (gz_Ev_mono (d := 3) (by decide) E255) ?_
        show gv_X _ _ (63, [(2, .inr (.inl (J210 0 75))), (1, .inl (I 0 6)), (0, .inr (.inr (some 0)))], [.inl z255], gr_sh ++ ext, gr_h I256 J257)
        refine gv_if_ne (t := 68) hD rfl rfl ⟨by omega, by omega⟩ (fun c271 => ?_) (fun c271 => ?_)
        · have f272 := (show 0 ≤ I256 0 72 ∧ I256 0 72 ≤ 1000 from (hI256 0 72).1)
          refine gv_run 5 true hD (pc' := 77) (lv' := [(5, .inl (I256 0 72)), (4, .inl 0), (2, .inr (.inl (J210 0 75))), (1, .inl (I 0 6)), (0, .inr (.inr (some 0)))]) (st' := []) (h' := gr_h I256 J257) (C := (((((True ∧ True) ∧ True) ∧ True) ∧ True) ∧ True)) rfl ⟨⟨⟨⟨⟨trivial, trivial⟩, trivial⟩, trivial⟩, trivial⟩, trivial⟩ ?_
          refine gv_pick [4, 3, 2, 1, 0] rfl ?_
          exact L77 _ I256 J257 (I 0 6) (J210 0 75) 0 (I256 0 72) (Nat.lt_succ_self _) hI256 FI256 FJ257 KVF_I256 ⟨by omega, by omega⟩ ⟨by omega, by omega⟩ ⟨by omega, by omega⟩ (by omega) (by omega) (by omega) (by omega) (by omega) (by omega) (by omega) (by omega) (by omega)
        · refine gv_pick [] rfl ?_
          exact L66 I256 J257 hI256 FI256 FJ257 KVF_I256 (by omega) (by omega) (by omega) (by omega) (by omega) (by omega) (by omega) (by omega) (by omega)
    · refine gv_run 2 true hD (pc' := 42) (lv' := [(2, .inr (.inl (J210 0 75))), (1, .inl (I 0 6)), (0, .inr (.inr (some 0)))]) (st' := [.inl 4, .inr (.inr (some 0))]) (h' := gr_h I209 J210) (C := ((True ∧ True) ∧ True)) rfl ⟨⟨trivial, trivial⟩, trivial⟩ ?_
      obtain ⟨r273, h273, E273, P273⟩ := r_no_ (ws0 := ws0) (tb := tb) hws htb ext I209 J210 hI209 4 ⟨by omega, by omega⟩ 
      obtain ⟨I274, J275, rfl, hI274, g273, k273, ⟨z273, rfl, q273⟩⟩ := P273
      have FI274 := gr_frt FI209 g273 rfl rfl
      have FJ275 := gr_fjt FJ210 k273 rfl rfl
      have t276 := g273 0 71 rfl
      have t277 := g273 0 72 rfl
      have t278 := g273 0 73 rfl
      have t279 := g273 0 69 rfl
      have t280 := g273 0 6 rfl
      have t281 := g273 13 (Int.toNat ((I 0 6))) rfl
      have t282 := g273 14 (Int.toNat ((I 0 6))) rfl
      have f283 := (show 0 ≤ I274 0 71 ∧ I274 0 71 ≤ 5 from (hI274 0 71).1)
      have f284 := (show 0 ≤ I274 0 72 ∧ I274 0 72 ≤ 1000 from (hI274 0 72).1)
      have f285 := (show 0 ≤ I274 0 73 ∧ I274 0 73 ≤ 1001 from (hI274 0 73).1)
      have f286 := (show 0 ≤ I274 0 69 ∧ I274 0 69 ≤ 1000 from (hI274 0 69).1)
      have f287 := (show (-1) ≤ I274 0 6 ∧ I274 0 6 ≤ 7 from (hI274 0 6).1)
      have KVF_I274 := gr_VF_fr KVF_I209 (fun k => g273 14 k rfl) (fun k => g273 13 k rfl)
      have t288 := KVF_I274 (Int.toNat ((I 0 6))) (by omega)
      refine gv_callV hD rfl (As := [.inl 4]) (st := []) rfl (by decide) rfl rfl (gr_lV hws rfl) (Nat.le_of_ble_eq_true rfl) (gz_Ev_mono (d := 2) (by decide) E273) ?_
      show gv_X _ _ (45, [(2, .inr (.inl (J210 0 75))), (1, .inl (I 0 6)), (0, .inr (.inr (some 0)))], [.inl z273], gr_sh ++ ext, gr_h I274 J275)
      exact gv_zret hD rfl (by omega) ⟨I274, J275, rfl, hI274, FI274, FJ275, KVF_I274, ⟨_, rfl, by omega, by omega, by omega, by omega, by omega, by omega, by omega, by omega, by omega, by omega⟩⟩
  · refine gv_run 1 true hD (pc' := 13) (lv' := [(1, .inl (I 0 6)), (0, .inr (.inr (some 0)))]) (st' := [.inl 0]) (h' := gr_h I209 J210) (C := (True ∧ True)) rfl ⟨trivial, trivial⟩ ?_
    exact gv_zret hD rfl (by omega) ⟨I209, J210, rfl, hI209, FI209, FJ210, KVF_I209, ⟨_, rfl, by omega, by omega, by omega, by omega, by omega, by omega, by omega, by omega, by omega, by omega⟩⟩
set_option maxHeartbeats 4000000 in
set_option maxRecDepth 100000 in
theorem r_sound {ws0 : List Cond} {tb : String → gz_T} (hws : ∀ w ∈ gr_ws, w ∈ ws0) (htb : tb RX13 = gr_T) (ext : gz_Sh) (I : gr_I) (J : gr_J) (hI : gr_Inv I)   (x0 : I 0 71 = 5 ∨ I 0 73 ≤ I 0 69) (x1 : I 0 72 ≤ I 0 69) (x2 : I 0 71 = 0 ∨ (I 0 72 < I 0 73 ∧ I 0 72 < I 0 69)) (x3 : I 0 71 = 3 → 2 ≤ I 0 73 - I 0 72 ∧ I 0 73 - I 0 72 ≤ 14) (x4 : I 0 72 ≤ I 0 73) (x5 : 0 ≤ I 0 6) (x6 : I 0 59 + I 0 69 - I 0 72 ≤ 1900) : ∃ r h', gz_Ev ws0 tb 13 (yX13_sound, cX13_sound, 6, (some .boolean)) [.inr (.inr (some 0))] (gr_sh ++ ext) (gr_h I J) r (gr_sh ++ ext) h' 0 0 ∧ (∃ (I' : gr_I) (J' : gr_J), h' = gr_h I' J' ∧ gr_Inv I' ∧ gr_fr [59, 71, 72, 73, 74, 75, 76, 77, 104] [16, 27, 28, 29, 30, 51, 57, 63] I I' ∧ gr_fj [59, 71, 72, 73, 74, 75, 76, 77, 104] [16, 27, 28, 29, 30, 51, 57, 63] J J' ∧ (∃ z : Int, r = some (.inl z) ∧ 0 ≤ z ∧ z ≤ 1 ∧ (I' 0 71 = 5 ∨ I' 0 73 ≤ I' 0 69) ∧ (I' 0 72 ≤ I' 0 69) ∧ (I' 0 71 = 0 ∨ (I' 0 72 < I' 0 73 ∧ I' 0 72 < I' 0 69)) ∧ (I' 0 71 = 3 → 2 ≤ I' 0 73 - I' 0 72 ∧ I' 0 73 - I' 0 72 ≤ 14) ∧ (I' 0 72 ≤ I' 0 73) ∧ (I' 0 69 = I 0 69) ∧ (I 0 73 ≤ I' 0 73) ∧ (I 0 72 ≤ I' 0 72) ∧ (I' 0 59 - I' 0 72 ≤ I 0 59 - I 0 72))) := by
  have FI : gr_fr [59, 71, 72, 73, 74, 75, 76, 77, 104] [16, 27, 28, 29, 30, 51, 57, 63] I I := fun _ _ _ => rfl
  have FJ : gr_fj [59, 71, 72, 73, 74, 75, 76, 77, 104] [16, 27, 28, 29, 30, 51, 57, 63] J J := fun _ _ _ => rfl
  have hD : gv_D (gr_E ws0 tb 12 (yX13_sound, cX13_sound, 6, (some .boolean)) kX13_sound) := gq_ok oX13_sound
  refine gr_ev (d := 12) (l := kX13_sound) (Po := fun r h' => (∃ (I' : gr_I) (J' : gr_J), h' = gr_h I' J' ∧ gr_Inv I' ∧ gr_fr [59, 71, 72, 73, 74, 75, 76, 77, 104] [16, 27, 28, 29, 30, 51, 57, 63] I I' ∧ gr_fj [59, 71, 72, 73, 74, 75, 76, 77, 104] [16, 27, 28, 29, 30, 51, 57, 63] J J' ∧ (∃ z : Int, r = some (.inl z) ∧ 0 ≤ z ∧ z ≤ 1 ∧ (I' 0 71 = 5 ∨ I' 0 73 ≤ I' 0 69) ∧ (I' 0 72 ≤ I' 0 69) ∧ (I' 0 71 = 0 ∨ (I' 0 72 < I' 0 73 ∧ I' 0 72 < I' 0 69)) ∧ (I' 0 71 = 3 → 2 ≤ I' 0 73 - I' 0 72 ∧ I' 0 73 - I' 0 72 ≤ 14) ∧ (I' 0 72 ≤ I' 0 73) ∧ (I' 0 69 = I 0 69) ∧ (I 0 73 ≤ I' 0 73) ∧ (I 0 72 ≤ I' 0 72) ∧ (I' 0 59 - I' 0 72 ≤ I 0 59 - I 0 72)))) htb rfl (Nat.le_of_ble_eq_true rfl) ?_
  have f1 := (show 0 ≤ I 0 71 ∧ I 0 71 ≤ 5 from (hI 0 71).1)
  have f2 := (show 0 ≤ I 0 72 ∧ I 0 72 ≤ 1000 from (hI 0 72).1)
  have f3 := (show 0 ≤ I 0 73 ∧ I 0 73 ≤ 1001 from (hI 0 73).1)
  have f4 := (show 0 ≤ I 0 69 ∧ I 0 69 ≤ 1000 from (hI 0 69).1)
  have f5 := (show (-1) ≤ I 0 6 ∧ I 0 6 ≤ 7 from (hI 0 6).1)
  have f6 := (show 0 ≤ I 0 59 ∧ I 0 59 ≤ 2000 from (hI 0 59).1)
  have L29 : (I 0 71 = 5 ∨ I 0 73 ≤ I 0 69) → (I 0 72 ≤ I 0 69) → (I 0 71 = 0 ∨ (I 0 72 < I 0 73 ∧ I 0 72 < I 0 69)) → (I 0 71 = 3 → 2 ≤ I 0 73 - I 0 72 ∧ I 0 73 - I 0 72 ≤ 14) → (I 0 72 ≤ I 0 73) → (I 0 69 = I 0 69) → (I 0 73 ≤ I 0 73) → (I 0 72 ≤ I 0 72) → (I 0 6 = I 0 6) → (I 0 59 - I 0 72 ≤ I 0 59 - I 0 72) → gv_X (gr_E ws0 tb 12 (yX13_sound, cX13_sound, 6, (some .boolean)) kX13_sound) (gv_Q cX13_sound (some .boolean) (gr_sh ++ ext) (fun r h' => (∃ (I' : gr_I) (J' : gr_J), h' = gr_h I' J' ∧ gr_Inv I' ∧ gr_fr [59, 71, 72, 73, 74, 75, 76, 77, 104] [16, 27, 28, 29, 30, 51, 57, 63] I I' ∧ gr_fj [59, 71, 72, 73, 74, 75, 76, 77, 104] [16, 27, 28, 29, 30, 51, 57, 63] J J' ∧ (∃ z : Int, r = some (.inl z) ∧ 0 ≤ z ∧ z ≤ 1 ∧ (I' 0 71 = 5 ∨ I' 0 73 ≤ I' 0 69) ∧ (I' 0 72 ≤ I' 0 69) ∧ (I' 0 71 = 0 ∨ (I' 0 72 < I' 0 73 ∧ I' 0 72 < I' 0 69)) ∧ (I' 0 71 = 3 → 2 ≤ I' 0 73 - I' 0 72 ∧ I' 0 73 - I' 0 72 ≤ 14) ∧ (I' 0 72 ≤ I' 0 73) ∧ (I' 0 69 = I 0 69) ∧ (I 0 73 ≤ I' 0 73) ∧ (I 0 72 ≤ I' 0 72) ∧ (I' 0 59 - I' 0 72 ≤ I 0 59 - I 0 72))))) (29, [(0, .inr (.inr (some 0)))], [], gr_sh ++ ext, gr_h I J) := by
    intro e0_7 e1_7 e2_7 e3_7 e4_7 e5_7 e6_7 e7_7 e8_7 e9_7
    have f8 := (show 0 ≤ I 0 71 ∧ I 0 71 ≤ 5 from (hI 0 71).1)
    have f9 := (show 0 ≤ I 0 72 ∧ I 0 72 ≤ 1000 from (hI 0 72).1)
    have f10 := (show 0 ≤ I 0 73 ∧ I 0 73 ≤ 1001 from (hI 0 73).1)
    have f11 := (show 0 ≤ I 0 69 ∧ I 0 69 ≤ 1000 from (hI 0 69).1)
    have f12 := (show (-1) ≤ I 0 6 ∧ I 0 6 ≤ 7 from (hI 0 6).1)
    have f13 := (show 0 ≤ I 0 59 ∧ I 0 59 ≤ 2000 from (hI 0 59).1)
    refine gv_run 2 true hD (pc' := 31) (lv' := [(0, .inr (.inr (some 0)))]) (st' := [.inl 5, .inr (.inr (some 0))]) (h' := gr_h I J) (C := ((True ∧ True) ∧ True)) rfl ⟨⟨trivial, trivial⟩, trivial⟩ ?_
    obtain ⟨r14, h14, E14, P14⟩ := r_no_ (ws0 := ws0) (tb := tb) hws htb ext I J hI 5 ⟨by omega, by omega⟩ 
    obtain ⟨I15, J16, rfl, hI15, g14, k14, ⟨z14, rfl, q14⟩⟩ := P14
    have FI15 := gr_frt FI g14 rfl rfl
    have FJ16 := gr_fjt FJ k14 rfl rfl
    have t17 := g14 0 71 rfl
    have t18 := g14 0 72 rfl
    have t19 := g14 0 73 rfl
    have t20 := g14 0 69 rfl
    have t21 := g14 0 6 rfl
    have t22 := g14 0 59 rfl
    have f23 := (show 0 ≤ I15 0 71 ∧ I15 0 71 ≤ 5 from (hI15 0 71).1)
    have f24 := (show 0 ≤ I15 0 72 ∧ I15 0 72 ≤ 1000 from (hI15 0 72).1)
    have f25 := (show 0 ≤ I15 0 73 ∧ I15 0 73 ≤ 1001 from (hI15 0 73).1)
    have f26 := (show 0 ≤ I15 0 69 ∧ I15 0 69 ≤ 1000 from (hI15 0 69).1)
    have f27 := (show (-1) ≤ I15 0 6 ∧ I15 0 6 ≤ 7 from (hI15 0 6).1)
    have f28 := (show 0 ≤ I15 0 59 ∧ I15 0 59 ≤ 2000 from (hI15 0 59).1)
    refine gv_callV hD rfl (As := [.inl 5]) (st := []) rfl (by decide) rfl rfl (gr_lV hws rfl) (Nat.le_of_ble_eq_true rfl) (gz_Ev_mono (d := 2) (by decide) E14) ?_
    show gv_X _ _ (34, [(0, .inr (.inr (some 0)))], [.inl z14], gr_sh ++ ext, gr_h I15 J16)
    exact gv_zret hD rfl (by omega) ⟨I15, J16, rfl, hI15, FI15, FJ16, ⟨_, rfl, by omega, by omega, by omega, by omega, by omega, by omega, by omega, by omega, by omega, by omega, by omega⟩⟩
  have L35 : ∀ (v1_29 : Int), 0 ≤ v1_29 ∧ v1_29 ≤ 7 → (I 0 71 = 5 ∨ I 0 73 ≤ I 0 69) → (I 0 72 ≤ I 0 69) → (I 0 71 = 0 ∨ (I 0 72 < I 0 73 ∧ I 0 72 < I 0 69)) → (I 0 71 = 3 → 2 ≤ I 0 73 - I 0 72 ∧ I 0 73 - I 0 72 ≤ 14) → (I 0 72 ≤ I 0 73) → (I 0 69 = I 0 69) → (I 0 73 ≤ I 0 73) → (I 0 72 ≤ I 0 72) → (I 0 6 = I 0 6) → (I 0 59 - I 0 72 ≤ I 0 59 - I 0 72) → gv_X (gr_E ws0 tb 12 (yX13_sound, cX13_sound, 6, (some .boolean)) kX13_sound) (gv_Q cX13_sound (some .boolean) (gr_sh ++ ext) (fun r h' => (∃ (I' : gr_I) (J' : gr_J), h' = gr_h I' J' ∧ gr_Inv I' ∧ gr_fr [59, 71, 72, 73, 74, 75, 76, 77, 104] [16, 27, 28, 29, 30, 51, 57, 63] I I' ∧ gr_fj [59, 71, 72, 73, 74, 75, 76, 77, 104] [16, 27, 28, 29, 30, 51, 57, 63] J J' ∧ (∃ z : Int, r = some (.inl z) ∧ 0 ≤ z ∧ z ≤ 1 ∧ (I' 0 71 = 5 ∨ I' 0 73 ≤ I' 0 69) ∧ (I' 0 72 ≤ I' 0 69) ∧ (I' 0 71 = 0 ∨ (I' 0 72 < I' 0 73 ∧ I' 0 72 < I' 0 69)) ∧ (I' 0 71 = 3 → 2 ≤ I' 0 73 - I' 0 72 ∧ I' 0 73 - I' 0 72 ≤ 14) ∧ (I' 0 72 ≤ I' 0 73) ∧ (I' 0 69 = I 0 69) ∧ (I 0 73 ≤ I' 0 73) ∧ (I 0 72 ≤ I' 0 72) ∧ (I' 0 59 - I' 0 72 ≤ I 0 59 - I 0 72))))) (35, [(0, .inr (.inr (some 0))), (1, .inl v1_29)], [], gr_sh ++ ext, gr_h I J) := by
    intro v1_29 hv1_29 e0_29 e1_29 e2_29 e3_29 e4_29 e5_29 e6_29 e7_29 e8_29 e9_29
    have f30 := (show 0 ≤ I 0 71 ∧ I 0 71 ≤ 5 from (hI 0 71).1)
    have f31 := (show 0 ≤ I 0 72 ∧ I 0 72 ≤ 1000 from (hI 0 72).1)
    have f32 := (show 0 ≤ I 0 73 ∧ I 0 73 ≤ 1001 from (hI 0 73).1)
    have f33 := (show 0 ≤ I 0 69 ∧ I 0 69 ≤ 1000 from (hI 0 69).1)
    have f34 := (show (-1) ≤ I 0 6 ∧ I 0 6 ≤ 7 from (hI 0 6).1)
    have f35 := (show 0 ≤ I 0 59 ∧ I 0 59 ≤ 2000 from (hI 0 59).1)
    have L87 : ∀ (n : Nat) (I36 : gr_I) (J37 : gr_J) (v2_38 : Int) (v3_38 : Int) (v4_38 : Int), (7 - v4_38).toNat < n → gr_Inv I36 → gr_fr [59, 71, 72, 73, 74, 75, 76, 77, 104] [16, 27, 28, 29, 30, 51, 57, 63] I I36 → gr_fj [59, 71, 72, 73, 74, 75, 76, 77, 104] [16, 27, 28, 29, 30, 51, 57, 63] J J37 → 0 ≤ v1_29 ∧ v1_29 ≤ 7 → (-16) ≤ v2_38 ∧ v2_38 ≤ 32015 → 0 ≤ v3_38 ∧ v3_38 ≤ 32015 → 0 ≤ v4_38 ∧ v4_38 ≤ 6 → (I36 0 71 = 5 ∨ I36 0 73 ≤ I36 0 69) → (I36 0 72 ≤ I36 0 69) → (I36 0 71 = 0 ∨ (I36 0 72 < I36 0 73 ∧ I36 0 72 < I36 0 69)) → (I36 0 71 = 3 → 2 ≤ I36 0 73 - I36 0 72 ∧ I36 0 73 - I36 0 72 ≤ 14) → (I36 0 72 ≤ I36 0 73) → (I36 0 69 = I 0 69) → (I 0 73 ≤ I36 0 73) → (I 0 72 ≤ I36 0 72) → (I36 0 6 = I 0 6) → (I36 0 59 - I36 0 72 ≤ I 0 59 - I 0 72) → gv_X (gr_E ws0 tb 12 (yX13_sound, cX13_sound, 6, (some .boolean)) kX13_sound) (gv_Q cX13_sound (some .boolean) (gr_sh ++ ext) (fun r h' => (∃ (I' : gr_I) (J' : gr_J), h' = gr_h I' J' ∧ gr_Inv I' ∧ gr_fr [59, 71, 72, 73, 74, 75, 76, 77, 104] [16, 27, 28, 29, 30, 51, 57, 63] I I' ∧ gr_fj [59, 71, 72, 73, 74, 75, 76, 77, 104] [16, 27, 28, 29, 30, 51, 57, 63] J J' ∧ (∃ z : Int, r = some (.inl z) ∧ 0 ≤ z ∧ z ≤ 1 ∧ (I' 0 71 = 5 ∨ I' 0 73 ≤ I' 0 69) ∧ (I' 0 72 ≤ I' 0 69) ∧ (I' 0 71 = 0 ∨ (I' 0 72 < I' 0 73 ∧ I' 0 72 < I' 0 69)) ∧ (I' 0 71 = 3 → 2 ≤ I' 0 73 - I' 0 72 ∧ I' 0 73 - I' 0 72 ≤ 14) ∧ (I' 0 72 ≤ I' 0 73) ∧ (I' 0 69 = I 0 69) ∧ (I 0 73 ≤ I' 0 73) ∧ (I 0 72 ≤ I' 0 72) ∧ (I' 0 59 - I' 0 72 ≤ I 0 59 - I 0 72))))) (87, [(0, .inr (.inr (some 0))), (1, .inl v1_29), (2, .inl v2_38), (3, .inl v3_38), (4, .inl v4_38)], [], gr_sh ++ ext, gr_h I36 J37) := by
      intro n
      induction n with
      | zero => intro I36 J37 v2_38 v3_38 v4_38 hn; omega
      | succ n ih87 =>
        intro I36 J37 v2_38 v3_38 v4_38 hn hI36 FI36 FJ37 hv1_29_38 hv2_38 hv3_38 hv4_38 e0_38 e1_38 e2_38 e3_38 e4_38 e5_38 e6_38 e7_38 e8_38 e9_38
        have f39 := (show 0 ≤ I36 0 71 ∧ I36 0 71 ≤ 5 from (hI36 0 71).1)
        have f40 := (show 0 ≤ I36 0 72 ∧ I36 0 72 ≤ 1000 from (hI36 0 72).1)
        have f41 := (show 0 ≤ I36 0 73 ∧ I36 0 73 ≤ 1001 from (hI36 0 73).1)
        have f42 := (show 0 ≤ I36 0 69 ∧ I36 0 69 ≤ 1000 from (hI36 0 69).1)
        have f43 := (show (-1) ≤ I36 0 6 ∧ I36 0 6 ≤ 7 from (hI36 0 6).1)
        have f44 := (show 0 ≤ I36 0 59 ∧ I36 0 59 ≤ 2000 from (hI36 0 59).1)
        have L148 : ∀ (I45 : gr_I) (J46 : gr_J) , gr_Inv I45 → gr_fr [59, 71, 72, 73, 74, 75, 76, 77, 104] [16, 27, 28, 29, 30, 51, 57, 63] I I45 → gr_fj [59, 71, 72, 73, 74, 75, 76, 77, 104] [16, 27, 28, 29, 30, 51, 57, 63] J J46 → (I45 0 71 = 5 ∨ I45 0 73 ≤ I45 0 69) → (I45 0 72 ≤ I45 0 69) → (I45 0 71 = 0 ∨ (I45 0 72 < I45 0 73 ∧ I45 0 72 < I45 0 69)) → (I45 0 71 = 3 → 2 ≤ I45 0 73 - I45 0 72 ∧ I45 0 73 - I45 0 72 ≤ 14) → (I45 0 72 ≤ I45 0 73) → (I45 0 69 = I 0 69) → (I 0 73 ≤ I45 0 73) → (I 0 72 ≤ I45 0 72) → (I45 0 6 = I 0 6) → (I45 0 59 - I45 0 72 ≤ I 0 59 - I 0 72) → gv_X (gr_E ws0 tb 12 (yX13_sound, cX13_sound, 6, (some .boolean)) kX13_sound) (gv_Q cX13_sound (some .boolean) (gr_sh ++ ext) (fun r h' => (∃ (I' : gr_I) (J' : gr_J), h' = gr_h I' J' ∧ gr_Inv I' ∧ gr_fr [59, 71, 72, 73, 74, 75, 76, 77, 104] [16, 27, 28, 29, 30, 51, 57, 63] I I' ∧ gr_fj [59, 71, 72, 73, 74, 75, 76, 77, 104] [16, 27, 28, 29, 30, 51, 57, 63] J J' ∧ (∃ z : Int, r = some (.inl z) ∧ 0 ≤ z ∧ z ≤ 1 ∧ (I' 0 71 = 5 ∨ I' 0 73 ≤ I' 0 69) ∧ (I' 0 72 ≤ I' 0 69) ∧ (I' 0 71 = 0 ∨ (I' 0 72 < I' 0 73 ∧ I' 0 72 < I' 0 69)) ∧ (I' 0 71 = 3 → 2 ≤ I' 0 73 - I' 0 72 ∧ I' 0 73 - I' 0 72 ≤ 14) ∧ (I' 0 72 ≤ I' 0 73) ∧ (I' 0 69 = I 0 69) ∧ (I 0 73 ≤ I' 0 73) ∧ (I 0 72 ≤ I' 0 72) ∧ (I' 0 59 - I' 0 72 ≤ I 0 59 - I 0 72))))) (148, [], [], gr_sh ++ ext, gr_h I45 J46) := by
          intro I45 J46 hI45 FI45 FJ46 e0_47 e1_47 e2_47 e3_47 e4_47 e5_47 e6_47 e7_47 e8_47 e9_47
          have f48 := (show 0 ≤ I45 0 71 ∧ I45 0 71 ≤ 5 from (hI45 0 71).1)
          have f49 := (show 0 ≤ I45 0 72 ∧ I45 0 72 ≤ 1000 from (hI45 0 72).1)
          have f50 := (show 0 ≤ I45 0 73 ∧ I45 0 73 ≤ 1001 from (hI45 0 73).1)
          have f51 := (show 0 ≤ I45 0 69 ∧ I45 0 69 ≤ 1000 from (hI45 0 69).1)
          have f52 := (show (-1) ≤ I45 0 6 ∧ I45 0 6 ≤ 7 from (hI45 0 6).1)
          have f53 := (show 0 ≤ I45 0 59 ∧ I45 0 59 ≤ 2000 from (hI45 0 59).1)
          refine gv_run 1 true hD (pc' := 149) (lv' := []) (st' := [.inl 0]) (h' := gr_h I45 J46) (C := (True ∧ True)) rfl ⟨trivial, trivial⟩ ?_
          exact gv_zret hD rfl (by omega) ⟨I45, J46, rfl, hI45, FI45, FJ46, ⟨_, rfl, by omega, by omega, by omega, by omega, by omega, by omega, by omega, by omega, by omega, by omega, by omega⟩⟩
        have L150 : ∀ (I54 : gr_I) (J55 : gr_J) , gr_Inv I54 → gr_fr [59, 71, 72, 73, 74, 75, 76, 77, 104] [16, 27, 28, 29, 30, 51, 57, 63] I I54 → gr_fj [59, 71, 72, 73, 74, 75, 76, 77, 104] [16, 27, 28, 29, 30, 51, 57, 63] J J55 → 0 ≤ v1_29 ∧ v1_29 ≤ 7 → (-16) ≤ v2_38 ∧ v2_38 ≤ 32015 → 0 ≤ v3_38 ∧ v3_38 ≤ 32015 → (I54 0 71 = 5 ∨ I54 0 73 ≤ I54 0 69) → (I54 0 72 ≤ I54 0 69) → (I54 0 71 = 0 ∨ (I54 0 72 < I54 0 73 ∧ I54 0 72 < I54 0 69)) → (I54 0 71 = 3 → 2 ≤ I54 0 73 - I54 0 72 ∧ I54 0 73 - I54 0 72 ≤ 14) → (I54 0 72 ≤ I54 0 73) → (I54 0 69 = I 0 69) → (I 0 73 ≤ I54 0 73) → (I 0 72 ≤ I54 0 72) → (I54 0 6 = I 0 6) → (I54 0 59 - I54 0 72 ≤ I 0 59 - I 0 72) → gv_X (gr_E ws0 tb 12 (yX13_sound, cX13_sound, 6, (some .boolean)) kX13_sound) (gv_Q cX13_sound (some .boolean) (gr_sh ++ ext) (fun r h' => (∃ (I' : gr_I) (J' : gr_J), h' = gr_h I' J' ∧ gr_Inv I' ∧ gr_fr [59, 71, 72, 73, 74, 75, 76, 77, 104] [16, 27, 28, 29, 30, 51, 57, 63] I I' ∧ gr_fj [59, 71, 72, 73, 74, 75, 76, 77, 104] [16, 27, 28, 29, 30, 51, 57, 63] J J' ∧ (∃ z : Int, r = some (.inl z) ∧ 0 ≤ z ∧ z ≤ 1 ∧ (I' 0 71 = 5 ∨ I' 0 73 ≤ I' 0 69) ∧ (I' 0 72 ≤ I' 0 69) ∧ (I' 0 71 = 0 ∨ (I' 0 72 < I' 0 73 ∧ I' 0 72 < I' 0 69)) ∧ (I' 0 71 = 3 → 2 ≤ I' 0 73 - I' 0 72 ∧ I' 0 73 - I' 0 72 ≤ 14) ∧ (I' 0 72 ≤ I' 0 73) ∧ (I' 0 69 = I 0 69) ∧ (I 0 73 ≤ I' 0 73) ∧ (I 0 72 ≤ I' 0 72) ∧ (I' 0 59 - I' 0 72 ≤ I 0 59 - I 0 72))))) (150, [(0, .inr (.inr (some 0))), (1, .inl v1_29), (2, .inl v2_38), (3, .inl v3_38)], [], gr_sh ++ ext, gr_h I54 J55) := by
          intro I54 J55 hI54 FI54 FJ55 hv1_29_56 hv2_38_56 hv3_38_56 e0_56 e1_56 e2_56 e3_56 e4_56 e5_56 e6_56 e7_56 e8_56 e9_56
          have f57 := (show 0 ≤ I54 0 71 ∧ I54 0 71 ≤ 5 from (hI54 0 71).1)
          have f58 := (show 0 ≤ I54 0 72 ∧ I54 0 72 ≤ 1000 from (hI54 0 72).1)
          have f59 := (show 0 ≤ I54 0 73 ∧ I54 0 73 ≤ 1001 from (hI54 0 73).1)
          have f60 := (show 0 ≤ I54 0 69 ∧ I54 0 69 ≤ 1000 from (hI54 0 69).1)
          have f61 := (show (-1) ≤ I54 0 6 ∧ I54 0 6 ≤ 7 from (hI54 0 6).1)
          have f62 := (show 0 ≤ I54 0 59 ∧ I54 0 59 ≤ 2000 from (hI54 0 59).1)
          have L167 : ∀ (s1_63 : Int), 0 ≤ v1_29 ∧ v1_29 ≤ 7 → (-16) ≤ v2_38 ∧ v2_38 ≤ 32015 → 0 ≤ v3_38 ∧ v3_38 ≤ 32015 → 0 ≤ s1_63 ∧ s1_63 ≤ 1 → (s1_63 = 0 ∨ I54 16 (Int.toNat v1_29) ≤ 23) → (I54 0 71 = 5 ∨ I54 0 73 ≤ I54 0 69) → (I54 0 72 ≤ I54 0 69) → (I54 0 71 = 0 ∨ (I54 0 72 < I54 0 73 ∧ I54 0 72 < I54 0 69)) → (I54 0 71 = 3 → 2 ≤ I54 0 73 - I54 0 72 ∧ I54 0 73 - I54 0 72 ≤ 14) → (I54 0 72 ≤ I54 0 73) → (I54 0 69 = I 0 69) → (I 0 73 ≤ I54 0 73) → (I 0 72 ≤ I54 0 72) → (I54 0 6 = I 0 6) → (I54 0 59 - I54 0 72 ≤ I 0 59 - I 0 72) → gv_X (gr_E ws0 tb 12 (yX13_sound, cX13_sound, 6, (some .boolean)) kX13_sound) (gv_Q cX13_sound (some .boolean) (gr_sh ++ ext) (fun r h' => (∃ (I' : gr_I) (J' : gr_J), h' = gr_h I' J' ∧ gr_Inv I' ∧ gr_fr [59, 71, 72, 73, 74, 75, 76, 77, 104] [16, 27, 28, 29, 30, 51, 57, 63] I I' ∧ gr_fj [59, 71, 72, 73, 74, 75, 76, 77, 104] [16, 27, 28, 29, 30, 51, 57, 63] J J' ∧ (∃ z : Int, r = some (.inl z) ∧ 0 ≤ z ∧ z ≤ 1 ∧ (I' 0 71 = 5 ∨ I' 0 73 ≤ I' 0 69) ∧ (I' 0 72 ≤ I' 0 69) ∧ (I' 0 71 = 0 ∨ (I' 0 72 < I' 0 73 ∧ I' 0 72 < I' 0 69)) ∧ (I' 0 71 = 3 → 2 ≤ I' 0 73 - I' 0 72 ∧ I' 0 73 - I' 0 72 ≤ 14) ∧ (I' 0 72 ≤ I' 0 73) ∧ (I' 0 69 = I 0 69) ∧ (I 0 73 ≤ I' 0 73) ∧ (I 0 72 ≤ I' 0 72) ∧ (I' 0 59 - I' 0 72 ≤ I 0 59 - I 0 72))))) (167, [(0, .inr (.inr (some 0))), (1, .inl v1_29), (2, .inl v2_38), (3, .inl v3_38)], [.inl s1_63, .inr (.inr (some 0))], gr_sh ++ ext, gr_h I54 J55) := by
            intro s1_63 hv1_29_63 hv2_38_63 hv3_38_63 hs1_63 e0_63 e1_63 e2_63 e3_63 e4_63 e5_63 e6_63 e7_63 e8_63 e9_63 e10_63
            have f64 := (show 0 ≤ I54 0 71 ∧ I54 0 71 ≤ 5 from (hI54 0 71).1)
            have f65 := (show 0 ≤ I54 0 72 ∧ I54 0 72 ≤ 1000 from (hI54 0 72).1)
            have f66 := (show 0 ≤ I54 0 73 ∧ I54 0 73 ≤ 1001 from (hI54 0 73).1)
            have f67 := (show 0 ≤ I54 0 69 ∧ I54 0 69 ≤ 1000 from (hI54 0 69).1)
            have f68 := (show (-1) ≤ I54 0 6 ∧ I54 0 6 ≤ 7 from (hI54 0 6).1)
            have f69 := (show 0 ≤ I54 0 59 ∧ I54 0 59 ≤ 2000 from (hI54 0 59).1)
            have L212 : ∀ (n : Nat) (I70 : gr_I) (J71 : gr_J) (v4_72 : Int) (v5_72 : Int), (4 - v5_72).toNat < n → gr_Inv I70 → gr_fr [59, 71, 72, 73, 74, 75, 76, 77, 104] [16, 27, 28, 29, 30, 51, 57, 63] I I70 → gr_fj [59, 71, 72, 73, 74, 75, 76, 77, 104] [16, 27, 28, 29, 30, 51, 57, 63] J J71 → 0 ≤ v4_72 ∧ v4_72 ≤ 191 → 0 ≤ v5_72 ∧ v5_72 ≤ 3 → (I70 0 71 = 5 ∨ I70 0 73 ≤ I70 0 69) → (I70 0 72 ≤ I70 0 69) → (I70 0 71 = 0 ∨ (I70 0 72 < I70 0 73 ∧ I70 0 72 < I70 0 69)) → (I70 0 71 = 3 → 2 ≤ I70 0 73 - I70 0 72 ∧ I70 0 73 - I70 0 72 ≤ 14) → (I70 0 72 ≤ I70 0 73) → (I70 0 69 = I 0 69) → (I 0 73 ≤ I70 0 73) → (I 0 72 ≤ I70 0 72) → (I70 0 6 = I 0 6) → (I70 0 59 - I70 0 72 ≤ I 0 59 - I 0 72) → gv_X (gr_E ws0 tb 12 (yX13_sound, cX13_sound, 6, (some .boolean)) kX13_sound) (gv_Q cX13_sound (some .boolean) (gr_sh ++ ext) (fun r h' => (∃ (I' : gr_I) (J' : gr_J), h' = gr_h I' J' ∧ gr_Inv I' ∧ gr_fr [59, 71, 72, 73, 74, 75, 76, 77, 104] [16, 27, 28, 29, 30, 51, 57, 63] I I' ∧ gr_fj [59, 71, 72, 73, 74, 75, 76, 77, 104] [16, 27, 28, 29, 30, 51, 57, 63] J J' ∧ (∃ z : Int, r = some (.inl z) ∧ 0 ≤ z ∧ z ≤ 1 ∧ (I' 0 71 = 5 ∨ I' 0 73 ≤ I' 0 69) ∧ (I' 0 72 ≤ I' 0 69) ∧ (I' 0 71 = 0 ∨ (I' 0 72 < I' 0 73 ∧ I' 0 72 < I' 0 69)) ∧ (I' 0 71 = 3 → 2 ≤ I' 0 73 - I' 0 72 ∧ I' 0 73 - I' 0 72 ≤ 14) ∧ (I' 0 72 ≤ I' 0 73) ∧ (I' 0 69 = I 0 69) ∧ (I 0 73 ≤ I' 0 73) ∧ (I 0 72 ≤ I' 0 72) ∧ (I' 0 59 - I' 0 72 ≤ I 0 59 - I 0 72))))) (212, [(0, .inr (.inr (some 0))), (4, .inl v4_72), (5, .inl v5_72)], [], gr_sh ++ ext, gr_h I70 J71) := by
              intro n
              induction n with
              | zero => intro I70 J71 v4_72 v5_72 hn; omega
              | succ n ih212 =>
                intro I70 J71 v4_72 v5_72 hn hI70 FI70 FJ71 hv4_72 hv5_72 e0_72 e1_72 e2_72 e3_72 e4_72 e5_72 e6_72 e7_72 e8_72 e9_72
                have f73 := (show 0 ≤ I70 0 71 ∧ I70 0 71 ≤ 5 from (hI70 0 71).1)
                have f74 := (show 0 ≤ I70 0 72 ∧ I70 0 72 ≤ 1000 from (hI70 0 72).1)
                have f75 := (show 0 ≤ I70 0 73 ∧ I70 0 73 ≤ 1001 from (hI70 0 73).1)
                have f76 := (show 0 ≤ I70 0 69 ∧ I70 0 69 ≤ 1000 from (hI70 0 69).1)
                have f77 := (show (-1) ≤ I70 0 6 ∧ I70 0 6 ≤ 7 from (hI70 0 6).1)
                have f78 := (show 0 ≤ I70 0 59 ∧ I70 0 59 ≤ 2000 from (hI70 0 59).1)
                refine gv_run 2 true hD (pc' := 215) (lv' := [(0, .inr (.inr (some 0))), (4, .inl v4_72), (5, .inl v5_72)]) (st' := [.inl 3, .inl v5_72]) (h' := gr_h I70 J71) (C := ((True ∧ True) ∧ True)) rfl ⟨⟨trivial, trivial⟩, trivial⟩ ?_
                refine gv_icmp_ge (t := 264) hD rfl rfl ⟨⟨by omega, by omega⟩, ⟨by omega, by omega⟩⟩ (fun c79 => ?_) (fun c79 => ?_)
                · refine gv_run 1 true hD (pc' := 265) (lv' := [(0, .inr (.inr (some 0))), (4, .inl v4_72), (5, .inl v5_72)]) (st' := [.inl 1]) (h' := gr_h I70 J71) (C := (True ∧ True)) rfl ⟨trivial, trivial⟩ ?_
                  exact gv_zret hD rfl (by omega) ⟨I70, J71, rfl, hI70, FI70, FJ71, ⟨_, rfl, by omega, by omega, by omega, by omega, by omega, by omega, by omega, by omega, by omega, by omega, by omega⟩⟩
                · refine gv_run 7 true hD (pc' := 229) (lv' := [(0, .inr (.inr (some 0))), (4, .inl v4_72), (5, .inl v5_72)]) (st' := [.inl ((3 * v4_72) + v5_72), .inr (.inr (some 29))]) (h' := gr_h I70 J71) (C := (((((((True ∧ True) ∧ True) ∧ True) ∧ True) ∧ True) ∧ True) ∧ True)) rfl ⟨⟨⟨⟨⟨⟨⟨trivial, trivial⟩, trivial⟩, trivial⟩, trivial⟩, trivial⟩, trivial⟩, trivial⟩ ?_
                  have f80 := (show ((-2147483648) ≤ I70 63 (Int.toNat v5_72) ∧ I70 63 (Int.toNat v5_72) ≤ 2147483647) ∧ ((I70 63 (Int.toNat v5_72)) = -2147483648 ∨ (I70 63 (Int.toNat v5_72)) = 2147483647 ∨ -16 ≤ (I70 63 (Int.toNat v5_72)) ∧ (I70 63 (Int.toNat v5_72)) ≤ 32015) from hI70 63 (Int.toNat v5_72))
                  refine gv_run 4 true hD (pc' := 236) (lv' := [(0, .inr (.inr (some 0))), (4, .inl v4_72), (5, .inl v5_72)]) (st' := [.inl (I70 63 (Int.toNat v5_72)), .inl ((3 * v4_72) + v5_72), .inr (.inr (some 29))]) (h' := gr_h I70 J71) (C := ((((True ∧ True) ∧ True) ∧ True) ∧ (0 ≤ v5_72 ∧ v5_72 < ((6 : Nat) : Int)))) rfl ⟨⟨⟨⟨trivial, trivial⟩, trivial⟩, trivial⟩, ⟨by omega, by omega⟩⟩ ?_
                  refine gv_run 1 true hD (pc' := 237) (lv' := [(0, .inr (.inr (some 0))), (4, .inl v4_72), (5, .inl v5_72)]) (st' := []) (h' := gz_up (gr_h I70 J71) 29 (Int.toNat (((3 * v4_72) + v5_72))) (.inl ((I70 63 (Int.toNat v5_72))))) (C := (True ∧ (0 ≤ (((3 * v4_72) + v5_72)) ∧ (((3 * v4_72) + v5_72)) < ((576 : Nat) : Int)))) rfl ⟨trivial, ⟨by omega, by omega⟩⟩ ?_
                  refine gr_st hI70 FI70 rfl rfl ⟨⟨by show (-2147483648) ≤ _; omega, by show _ ≤ 2147483647; omega⟩, by show (((I70 63 (Int.toNat v5_72))) = -2147483648 ∨ ((I70 63 (Int.toNat v5_72))) = 2147483647 ∨ -16 ≤ ((I70 63 (Int.toNat v5_72))) ∧ ((I70 63 (Int.toNat v5_72))) ≤ 32015); omega⟩ (fun I81 hI81 FI81 q82 p82 => ?_)
                  have t83 := p82 0 71 (fun q => absurd q.1 (by decide))
                  have t84 := p82 0 72 (fun q => absurd q.1 (by decide))
                  have t85 := p82 0 73 (fun q => absurd q.1 (by decide))
                  have t86 := p82 0 69 (fun q => absurd q.1 (by decide))
                  have t87 := p82 0 6 (fun q => absurd q.1 (by decide))
                  have t88 := p82 0 59 (fun q => absurd q.1 (by decide))
                  have f89 := (show 0 ≤ I81 0 71 ∧ I81 0 71 ≤ 5 from (hI81 0 71).1)
                  have f90 := (show 0 ≤ I81 0 72 ∧ I81 0 72 ≤ 1000 from (hI81 0 72).1)
                  have f91 := (show 0 ≤ I81 0 73 ∧ I81 0 73 ≤ 1001 from (hI81 0 73).1)
                  have f92 := (show 0 ≤ I81 0 69 ∧ I81 0 69 ≤ 1000 from (hI81 0 69).1)
                  have f93 := (show (-1) ≤ I81 0 6 ∧ I81 0 6 ≤ 7 from (hI81 0 6).1)
                  have f94 := (show 0 ≤ I81 0 59 ∧ I81 0 59 ≤ 2000 from (hI81 0 59).1)
                  refine gv_run 7 true hD (pc' := 248) (lv' := [(0, .inr (.inr (some 0))), (4, .inl v4_72), (5, .inl v5_72)]) (st' := [.inl ((3 * v4_72) + v5_72), .inr (.inr (some 30))]) (h' := gr_h I81 J71) (C := (((((((True ∧ True) ∧ True) ∧ True) ∧ True) ∧ True) ∧ True) ∧ True)) rfl ⟨⟨⟨⟨⟨⟨⟨trivial, trivial⟩, trivial⟩, trivial⟩, trivial⟩, trivial⟩, trivial⟩, trivial⟩ ?_
                  have f95 := (show ((-2147483648) ≤ I81 63 (Int.toNat ((3 + v5_72))) ∧ I81 63 (Int.toNat ((3 + v5_72))) ≤ 2147483647) ∧ ((I81 63 (Int.toNat ((3 + v5_72)))) = -2147483648 ∨ (I81 63 (Int.toNat ((3 + v5_72)))) = 2147483647 ∨ -16 ≤ (I81 63 (Int.toNat ((3 + v5_72)))) ∧ (I81 63 (Int.toNat ((3 + v5_72)))) ≤ 32015) from hI81 63 (Int.toNat ((3 + v5_72))))
                  refine gv_run 6 true hD (pc' := 257) (lv' := [(0, .inr (.inr (some 0))), (4, .inl v4_72), (5, .inl v5_72)]) (st' := [.inl (I81 63 (Int.toNat ((3 + v5_72)))), .inl ((3 * v4_72) + v5_72), .inr (.inr (some 30))]) (h' := gr_h I81 J71) (C := ((((((True ∧ True) ∧ True) ∧ True) ∧ True) ∧ True) ∧ (0 ≤ (3 + v5_72) ∧ (3 + v5_72) < ((6 : Nat) : Int)))) rfl ⟨⟨⟨⟨⟨⟨trivial, trivial⟩, trivial⟩, trivial⟩, trivial⟩, trivial⟩, ⟨by omega, by omega⟩⟩ ?_
                  refine gv_run 1 true hD (pc' := 258) (lv' := [(0, .inr (.inr (some 0))), (4, .inl v4_72), (5, .inl v5_72)]) (st' := []) (h' := gz_up (gr_h I81 J71) 30 (Int.toNat (((3 * v4_72) + v5_72))) (.inl ((I81 63 (Int.toNat ((3 + v5_72))))))) (C := (True ∧ (0 ≤ (((3 * v4_72) + v5_72)) ∧ (((3 * v4_72) + v5_72)) < ((576 : Nat) : Int)))) rfl ⟨trivial, ⟨by omega, by omega⟩⟩ ?_
                  refine gr_st hI81 FI81 rfl rfl ⟨⟨by show (-2147483648) ≤ _; omega, by show _ ≤ 2147483647; omega⟩, by show (((I81 63 (Int.toNat ((3 + v5_72))))) = -2147483648 ∨ ((I81 63 (Int.toNat ((3 + v5_72))))) = 2147483647 ∨ -16 ≤ ((I81 63 (Int.toNat ((3 + v5_72))))) ∧ ((I81 63 (Int.toNat ((3 + v5_72))))) ≤ 32015); omega⟩ (fun I96 hI96 FI96 q97 p97 => ?_)
                  have t98 := p97 0 71 (fun q => absurd q.1 (by decide))
                  have t99 := p97 0 72 (fun q => absurd q.1 (by decide))
                  have t100 := p97 0 73 (fun q => absurd q.1 (by decide))
                  have t101 := p97 0 69 (fun q => absurd q.1 (by decide))
                  have t102 := p97 0 6 (fun q => absurd q.1 (by decide))
                  have t103 := p97 0 59 (fun q => absurd q.1 (by decide))
                  have f104 := (show 0 ≤ I96 0 71 ∧ I96 0 71 ≤ 5 from (hI96 0 71).1)
                  have f105 := (show 0 ≤ I96 0 72 ∧ I96 0 72 ≤ 1000 from (hI96 0 72).1)
                  have f106 := (show 0 ≤ I96 0 73 ∧ I96 0 73 ≤ 1001 from (hI96 0 73).1)
                  have f107 := (show 0 ≤ I96 0 69 ∧ I96 0 69 ≤ 1000 from (hI96 0 69).1)
                  have f108 := (show (-1) ≤ I96 0 6 ∧ I96 0 6 ≤ 7 from (hI96 0 6).1)
                  have f109 := (show 0 ≤ I96 0 59 ∧ I96 0 59 ≤ 2000 from (hI96 0 59).1)
                  refine gv_run 2 true hD (pc' := 212) (lv' := [(5, .inl (v5_72 + 1)), (0, .inr (.inr (some 0))), (4, .inl v4_72)]) (st' := []) (h' := gr_h I96 J71) (C := ((True ∧ True) ∧ True)) rfl ⟨⟨trivial, trivial⟩, trivial⟩ ?_
                  refine gv_pick [1, 2, 0] rfl ?_
                  exact ih212 I96 J71 v4_72 (v5_72 + 1) (by omega) hI96 FI96 FJ71 ⟨by omega, by omega⟩ ⟨by omega, by omega⟩ (by omega) (by omega) (by omega) (by omega) (by omega) (by omega) (by omega) (by omega) (by omega) (by omega)
            obtain ⟨r110, h110, E110, P110⟩ := r_done (ws0 := ws0) (tb := tb) hws htb ext I54 J55 hI54 s1_63 ⟨by omega, by omega⟩ (by omega) (by omega) (by omega) (by omega) (by omega)
            obtain ⟨I111, J112, rfl, hI111, g110, k110, ⟨z110, rfl, q110⟩⟩ := P110
            have FI111 := gr_frt FI54 g110 rfl rfl
            have FJ112 := gr_fjt FJ55 k110 rfl rfl
            have t113 := g110 0 69 rfl
            have t114 := g110 0 6 rfl
            have t115 := g110 0 59 rfl
            have t116 := g110 16 (Int.toNat v1_29) rfl
            have f117 := (show 0 ≤ I111 0 71 ∧ I111 0 71 ≤ 5 from (hI111 0 71).1)
            have f118 := (show 0 ≤ I111 0 72 ∧ I111 0 72 ≤ 1000 from (hI111 0 72).1)
            have f119 := (show 0 ≤ I111 0 73 ∧ I111 0 73 ≤ 1001 from (hI111 0 73).1)
            have f120 := (show 0 ≤ I111 0 69 ∧ I111 0 69 ≤ 1000 from (hI111 0 69).1)
            have f121 := (show (-1) ≤ I111 0 6 ∧ I111 0 6 ≤ 7 from (hI111 0 6).1)
            have f122 := (show 0 ≤ I111 0 59 ∧ I111 0 59 ≤ 2000 from (hI111 0 59).1)
            refine gv_callV hD rfl (As := [.inl s1_63]) (st := []) rfl (by decide) rfl rfl (gr_lV hws rfl) (Nat.le_of_ble_eq_true rfl) (gz_Ev_mono (d := 11) (by decide) E110) ?_
            show gv_X _ _ (170, [(0, .inr (.inr (some 0))), (1, .inl v1_29), (2, .inl v2_38), (3, .inl v3_38)], [.inl z110], gr_sh ++ ext, gr_h I111 J112)
            refine gv_if_ne (t := 175) hD rfl rfl ⟨by omega, by omega⟩ (fun c123 => ?_) (fun c123 => ?_)
            · refine gv_run 7 true hD (pc' := 185) (lv' := [(0, .inr (.inr (some 0))), (1, .inl v1_29), (2, .inl v2_38), (3, .inl v3_38)]) (st' := [.inl v1_29, .inr (.inr (some 16)), .inl v1_29, .inr (.inr (some 16)), .inl (24 * v1_29)]) (h' := gr_h I111 J112) (C := (((((((True ∧ True) ∧ True) ∧ True) ∧ True) ∧ True) ∧ True) ∧ True)) rfl ⟨⟨⟨⟨⟨⟨⟨trivial, trivial⟩, trivial⟩, trivial⟩, trivial⟩, trivial⟩, trivial⟩, trivial⟩ ?_
              have f124 := (show 0 ≤ I111 16 (Int.toNat v1_29) ∧ I111 16 (Int.toNat v1_29) ≤ 24 from (hI111 16 (Int.toNat v1_29)).1)
              refine gv_run 1 true hD (pc' := 186) (lv' := [(0, .inr (.inr (some 0))), (1, .inl v1_29), (2, .inl v2_38), (3, .inl v3_38)]) (st' := [.inl (I111 16 (Int.toNat v1_29)), .inl v1_29, .inr (.inr (some 16)), .inl (24 * v1_29)]) (h' := gr_h I111 J112) (C := (True ∧ (0 ≤ v1_29 ∧ v1_29 < ((8 : Nat) : Int)))) rfl ⟨trivial, ⟨by omega, by omega⟩⟩ ?_
              refine gv_run 3 true hD (pc' := 189) (lv' := [(0, .inr (.inr (some 0))), (1, .inl v1_29), (2, .inl v2_38), (3, .inl v3_38)]) (st' := [.inl ((I111 16 (Int.toNat v1_29)) + 1), .inl v1_29, .inr (.inr (some 16)), .inl (I111 16 (Int.toNat v1_29)), .inl (24 * v1_29)]) (h' := gr_h I111 J112) (C := (((True ∧ True) ∧ True) ∧ True)) rfl ⟨⟨⟨trivial, trivial⟩, trivial⟩, trivial⟩ ?_
              refine gv_run 1 true hD (pc' := 190) (lv' := [(0, .inr (.inr (some 0))), (1, .inl v1_29), (2, .inl v2_38), (3, .inl v3_38)]) (st' := [.inl (I111 16 (Int.toNat v1_29)), .inl (24 * v1_29)]) (h' := gz_up (gr_h I111 J112) 16 (Int.toNat v1_29) (.inl (((I111 16 (Int.toNat v1_29)) + 1)))) (C := (True ∧ (0 ≤ v1_29 ∧ v1_29 < ((8 : Nat) : Int)))) rfl ⟨trivial, ⟨by omega, by omega⟩⟩ ?_
              refine gr_st hI111 FI111 rfl rfl ⟨⟨by show 0 ≤ _; omega, by show _ ≤ 24; omega⟩, trivial⟩ (fun I125 hI125 FI125 q126 p126 => ?_)
              have t127 := p126 0 71 (fun q => absurd q.1 (by decide))
              have t128 := p126 0 72 (fun q => absurd q.1 (by decide))
              have t129 := p126 0 73 (fun q => absurd q.1 (by decide))
              have t130 := p126 0 69 (fun q => absurd q.1 (by decide))
              have t131 := p126 0 6 (fun q => absurd q.1 (by decide))
              have t132 := p126 0 59 (fun q => absurd q.1 (by decide))
              have f133 := (show 0 ≤ I125 0 71 ∧ I125 0 71 ≤ 5 from (hI125 0 71).1)
              have f134 := (show 0 ≤ I125 0 72 ∧ I125 0 72 ≤ 1000 from (hI125 0 72).1)
              have f135 := (show 0 ≤ I125 0 73 ∧ I125 0 73 ≤ 1001 from (hI125 0 73).1)
              have f136 := (show 0 ≤ I125 0 69 ∧ I125 0 69 ≤ 1000 from (hI125 0 69).1)
              have f137 := (show (-1) ≤ I125 0 6 ∧ I125 0 6 ≤ 7 from (hI125 0 6).1)
              have f138 := (show 0 ≤ I125 0 59 ∧ I125 0 59 ≤ 2000 from (hI125 0 59).1)
              refine gv_run 6 true hD (pc' := 200) (lv' := [(4, .inl ((24 * v1_29) + (I111 16 (Int.toNat v1_29)))), (0, .inr (.inr (some 0))), (1, .inl v1_29), (2, .inl v2_38), (3, .inl v3_38)]) (st' := [.inl v2_38, .inl ((24 * v1_29) + (I111 16 (Int.toNat v1_29))), .inr (.inr (some 27))]) (h' := gr_h I125 J112) (C := ((((((True ∧ True) ∧ True) ∧ True) ∧ True) ∧ True) ∧ True)) rfl ⟨⟨⟨⟨⟨⟨trivial, trivial⟩, trivial⟩, trivial⟩, trivial⟩, trivial⟩, trivial⟩ ?_
              refine gv_run 1 true hD (pc' := 201) (lv' := [(4, .inl ((24 * v1_29) + (I111 16 (Int.toNat v1_29)))), (0, .inr (.inr (some 0))), (1, .inl v1_29), (2, .inl v2_38), (3, .inl v3_38)]) (st' := []) (h' := gz_up (gr_h I125 J112) 27 (Int.toNat (((24 * v1_29) + (I111 16 (Int.toNat v1_29))))) (.inl v2_38)) (C := (True ∧ (0 ≤ (((24 * v1_29) + (I111 16 (Int.toNat v1_29)))) ∧ (((24 * v1_29) + (I111 16 (Int.toNat v1_29)))) < ((192 : Nat) : Int)))) rfl ⟨trivial, ⟨by omega, by omega⟩⟩ ?_
              refine gr_st hI125 FI125 rfl rfl ⟨⟨by show (-16) ≤ _; omega, by show _ ≤ 32015; omega⟩, trivial⟩ (fun I139 hI139 FI139 q140 p140 => ?_)
              have t141 := p140 0 71 (fun q => absurd q.1 (by decide))
              have t142 := p140 0 72 (fun q => absurd q.1 (by decide))
              have t143 := p140 0 73 (fun q => absurd q.1 (by decide))
              have t144 := p140 0 69 (fun q => absurd q.1 (by decide))
              have t145 := p140 0 6 (fun q => absurd q.1 (by decide))
              have t146 := p140 0 59 (fun q => absurd q.1 (by decide))
              have t147 := p140 16 (Int.toNat v1_29) (fun q => absurd q.1 (by decide))
              have f148 := (show 0 ≤ I139 0 71 ∧ I139 0 71 ≤ 5 from (hI139 0 71).1)
              have f149 := (show 0 ≤ I139 0 72 ∧ I139 0 72 ≤ 1000 from (hI139 0 72).1)
              have f150 := (show 0 ≤ I139 0 73 ∧ I139 0 73 ≤ 1001 from (hI139 0 73).1)
              have f151 := (show 0 ≤ I139 0 69 ∧ I139 0 69 ≤ 1000 from (hI139 0 69).1)
              have f152 := (show (-1) ≤ I139 0 6 ∧ I139 0 6 ≤ 7 from (hI139 0 6).1)
              have f153 := (show 0 ≤ I139 0 59 ∧ I139 0 59 ≤ 2000 from (hI139 0 59).1)
              refine gv_run 4 true hD (pc' := 208) (lv' := [(4, .inl ((24 * v1_29) + (I111 16 (Int.toNat v1_29)))), (0, .inr (.inr (some 0))), (1, .inl v1_29), (2, .inl v2_38), (3, .inl v3_38)]) (st' := [.inl v3_38, .inl ((24 * v1_29) + (I111 16 (Int.toNat v1_29))), .inr (.inr (some 28))]) (h' := gr_h I139 J112) (C := ((((True ∧ True) ∧ True) ∧ True) ∧ True)) rfl ⟨⟨⟨⟨trivial, trivial⟩, trivial⟩, trivial⟩, trivial⟩ ?_
              refine gv_run 1 true hD (pc' := 209) (lv' := [(4, .inl ((24 * v1_29) + (I111 16 (Int.toNat v1_29)))), (0, .inr (.inr (some 0))), (1, .inl v1_29), (2, .inl v2_38), (3, .inl v3_38)]) (st' := []) (h' := gz_up (gr_h I139 J112) 28 (Int.toNat (((24 * v1_29) + (I111 16 (Int.toNat v1_29))))) (.inl v3_38)) (C := (True ∧ (0 ≤ (((24 * v1_29) + (I111 16 (Int.toNat v1_29)))) ∧ (((24 * v1_29) + (I111 16 (Int.toNat v1_29)))) < ((192 : Nat) : Int)))) rfl ⟨trivial, ⟨by omega, by omega⟩⟩ ?_
              refine gr_st hI139 FI139 rfl rfl ⟨⟨by show 0 ≤ _; omega, by show _ ≤ 32015; omega⟩, trivial⟩ (fun I154 hI154 FI154 q155 p155 => ?_)
              have t156 := p155 0 71 (fun q => absurd q.1 (by decide))
              have t157 := p155 0 72 (fun q => absurd q.1 (by decide))
              have t158 := p155 0 73 (fun q => absurd q.1 (by decide))
              have t159 := p155 0 69 (fun q => absurd q.1 (by decide))
              have t160 := p155 0 6 (fun q => absurd q.1 (by decide))
              have t161 := p155 0 59 (fun q => absurd q.1 (by decide))
              have t162 := p155 16 (Int.toNat v1_29) (fun q => absurd q.1 (by decide))
              have f163 := (show 0 ≤ I154 0 71 ∧ I154 0 71 ≤ 5 from (hI154 0 71).1)
              have f164 := (show 0 ≤ I154 0 72 ∧ I154 0 72 ≤ 1000 from (hI154 0 72).1)
              have f165 := (show 0 ≤ I154 0 73 ∧ I154 0 73 ≤ 1001 from (hI154 0 73).1)
              have f166 := (show 0 ≤ I154 0 69 ∧ I154 0 69 ≤ 1000 from (hI154 0 69).1)
              have f167 := (show (-1) ≤ I154 0 6 ∧ I154 0 6 ≤ 7 from (hI154 0 6).1)
              have f168 := (show 0 ≤ I154 0 59 ∧ I154 0 59 ≤ 2000 from (hI154 0 59).1)
              refine gv_run 2 true hD (pc' := 212) (lv' := [(5, .inl 0), (4, .inl ((24 * v1_29) + (I111 16 (Int.toNat v1_29)))), (0, .inr (.inr (some 0))), (1, .inl v1_29), (2, .inl v2_38), (3, .inl v3_38)]) (st' := []) (h' := gr_h I154 J112) (C := ((True ∧ True) ∧ True)) rfl ⟨⟨trivial, trivial⟩, trivial⟩ ?_
              refine gv_pick [2, 1, 0] rfl ?_
              exact L212 _ I154 J112 (((24 * v1_29) + (I111 16 (Int.toNat v1_29)))) 0 (Nat.lt_succ_self _) hI154 FI154 FJ112 ⟨by omega, by omega⟩ ⟨by omega, by omega⟩ (by omega) (by omega) (by omega) (by omega) (by omega) (by omega) (by omega) (by omega) (by omega) (by omega)
            · refine gv_run 1 true hD (pc' := 174) (lv' := [(0, .inr (.inr (some 0))), (1, .inl v1_29), (2, .inl v2_38), (3, .inl v3_38)]) (st' := [.inl 0]) (h' := gr_h I111 J112) (C := (True ∧ True)) rfl ⟨trivial, trivial⟩ ?_
              exact gv_zret hD rfl (by omega) ⟨I111, J112, rfl, hI111, FI111, FJ112, ⟨_, rfl, by omega, by omega, by omega, by omega, by omega, by omega, by omega, by omega, by omega, by omega, by omega⟩⟩
          have f169 := (show 0 ≤ I54 16 (Int.toNat v1_29) ∧ I54 16 (Int.toNat v1_29) ≤ 24 from (hI54 16 (Int.toNat v1_29)).1)
          refine gv_run 5 true hD (pc' := 157) (lv' := [(0, .inr (.inr (some 0))), (1, .inl v1_29), (2, .inl v2_38), (3, .inl v3_38)]) (st' := [.inl (I54 16 (Int.toNat v1_29)), .inr (.inr (some 0))]) (h' := gr_h I54 J55) (C := (((((True ∧ True) ∧ True) ∧ True) ∧ True) ∧ (0 ≤ v1_29 ∧ v1_29 < ((8 : Nat) : Int)))) rfl ⟨⟨⟨⟨⟨trivial, trivial⟩, trivial⟩, trivial⟩, trivial⟩, ⟨by omega, by omega⟩⟩ ?_
          refine gv_run 1 true hD (pc' := 159) (lv' := [(0, .inr (.inr (some 0))), (1, .inl v1_29), (2, .inl v2_38), (3, .inl v3_38)]) (st' := [.inl 24, .inl (I54 16 (Int.toNat v1_29)), .inr (.inr (some 0))]) (h' := gr_h I54 J55) (C := (True ∧ True)) rfl ⟨trivial, trivial⟩ ?_
          refine gv_icmp_ge (t := 166) hD rfl rfl ⟨⟨by omega, by omega⟩, ⟨by omega, by omega⟩⟩ (fun c170 => ?_) (fun c170 => ?_)
          · refine gv_run 1 true hD (pc' := 167) (lv' := [(0, .inr (.inr (some 0))), (1, .inl v1_29), (2, .inl v2_38), (3, .inl v3_38)]) (st' := [.inl 0, .inr (.inr (some 0))]) (h' := gr_h I54 J55) (C := (True ∧ True)) rfl ⟨trivial, trivial⟩ ?_
            exact L167 0 ⟨by omega, by omega⟩ ⟨by omega, by omega⟩ ⟨by omega, by omega⟩ ⟨by omega, by omega⟩ (by omega) (by omega) (by omega) (by omega) (by omega) (by omega) (by omega) (by omega) (by omega) (by omega) (by omega)
          · refine gv_run 2 true hD (pc' := 167) (lv' := [(0, .inr (.inr (some 0))), (1, .inl v1_29), (2, .inl v2_38), (3, .inl v3_38)]) (st' := [.inl 1, .inr (.inr (some 0))]) (h' := gr_h I54 J55) (C := ((True ∧ True) ∧ True)) rfl ⟨⟨trivial, trivial⟩, trivial⟩ ?_
            exact L167 1 ⟨by omega, by omega⟩ ⟨by omega, by omega⟩ ⟨by omega, by omega⟩ ⟨by omega, by omega⟩ (by omega) (by omega) (by omega) (by omega) (by omega) (by omega) (by omega) (by omega) (by omega) (by omega) (by omega)
        refine gv_run 2 true hD (pc' := 91) (lv' := [(0, .inr (.inr (some 0))), (1, .inl v1_29), (2, .inl v2_38), (3, .inl v3_38), (4, .inl v4_38)]) (st' := [.inl 6, .inl v4_38]) (h' := gr_h I36 J37) (C := ((True ∧ True) ∧ True)) rfl ⟨⟨trivial, trivial⟩, trivial⟩ ?_
        refine gv_icmp_ge (t := 110) hD rfl rfl ⟨⟨by omega, by omega⟩, ⟨by omega, by omega⟩⟩ (fun c171 => ?_) (fun c171 => ?_)
        · refine gv_run 2 true hD (pc' := 113) (lv' := [(0, .inr (.inr (some 0))), (1, .inl v1_29), (2, .inl v2_38), (3, .inl v3_38), (4, .inl v4_38)]) (st' := [.inl 47, .inr (.inr (some 0))]) (h' := gr_h I36 J37) (C := ((True ∧ True) ∧ True)) rfl ⟨⟨trivial, trivial⟩, trivial⟩ ?_
          obtain ⟨r172, h172, E172, P172⟩ := r_sign (ws0 := ws0) (tb := tb) hws htb ext I36 J37 hI36 47 ⟨by omega, by omega⟩ (by omega)
          obtain ⟨rfl, ⟨z172, rfl, q172⟩⟩ := P172
          refine gv_callV hD rfl (As := [.inl 47]) (st := []) rfl (by decide) rfl rfl (gr_lV hws rfl) (Nat.le_of_ble_eq_true rfl) (gz_Ev_mono (d := 1) (by decide) E172) ?_
          show gv_X _ _ (116, [(0, .inr (.inr (some 0))), (1, .inl v1_29), (2, .inl v2_38), (3, .inl v3_38), (4, .inl v4_38)], [.inl z172], gr_sh ++ ext, gr_h I36 J37)
          refine gv_if_eq (t := 150) hD rfl rfl ⟨by omega, by omega⟩ (fun c173 => ?_) (fun c173 => ?_)
          · refine gv_pick [0, 1, 2, 3] rfl ?_
            exact L150 I36 J37 hI36 FI36 FJ37 ⟨by omega, by omega⟩ ⟨by omega, by omega⟩ ⟨by omega, by omega⟩ (by omega) (by omega) (by omega) (by omega) (by omega) (by omega) (by omega) (by omega) (by omega) (by omega)
          · refine gv_run 1 true hD (pc' := 120) (lv' := [(0, .inr (.inr (some 0))), (1, .inl v1_29), (2, .inl v2_38), (3, .inl v3_38), (4, .inl v4_38)]) (st' := [.inr (.inr (some 0))]) (h' := gr_h I36 J37) (C := (True ∧ True)) rfl ⟨trivial, trivial⟩ ?_
            obtain ⟨r174, h174, E174, P174⟩ := r_next (ws0 := ws0) (tb := tb) hws htb ext I36 J37 hI36   (by omega)
            obtain ⟨I175, J176, rfl, hI175, g174, k174, ⟨rfl, q174⟩⟩ := P174
            have FI175 := gr_frt FI36 g174 rfl rfl
            have FJ176 := gr_fjt FJ37 k174 rfl rfl
            have t177 := g174 0 69 rfl
            have t178 := g174 0 6 rfl
            have t179 := g174 0 59 rfl
            have t180 := g174 16 (Int.toNat v1_29) rfl
            have f181 := (show 0 ≤ I175 0 71 ∧ I175 0 71 ≤ 5 from (hI175 0 71).1)
            have f182 := (show 0 ≤ I175 0 72 ∧ I175 0 72 ≤ 1000 from (hI175 0 72).1)
            have f183 := (show 0 ≤ I175 0 73 ∧ I175 0 73 ≤ 1001 from (hI175 0 73).1)
            have f184 := (show 0 ≤ I175 0 69 ∧ I175 0 69 ≤ 1000 from (hI175 0 69).1)
            have f185 := (show (-1) ≤ I175 0 6 ∧ I175 0 6 ≤ 7 from (hI175 0 6).1)
            have f186 := (show 0 ≤ I175 0 59 ∧ I175 0 59 ≤ 2000 from (hI175 0 59).1)
            refine gv_callV hD rfl (As := []) (st := []) rfl (by decide) rfl rfl (gr_lV hws rfl) (Nat.le_of_ble_eq_true rfl) (gz_Ev_mono (d := 10) (by decide) E174) ?_
            show gv_X _ _ (123, [(0, .inr (.inr (some 0))), (1, .inl v1_29), (2, .inl v2_38), (3, .inl v3_38), (4, .inl v4_38)], [], gr_sh ++ ext, gr_h I175 J176)
            refine gv_run 2 true hD (pc' := 125) (lv' := [(0, .inr (.inr (some 0))), (1, .inl v1_29), (2, .inl v2_38), (3, .inl v3_38), (4, .inl v4_38)]) (st' := [.inl 0, .inr (.inr (some 0))]) (h' := gr_h I175 J176) (C := ((True ∧ True) ∧ True)) rfl ⟨⟨trivial, trivial⟩, trivial⟩ ?_
            obtain ⟨r187, h187, E187, P187⟩ := r_side (ws0 := ws0) (tb := tb) hws htb ext I175 J176 hI175 0 ⟨by omega, by omega⟩ (by omega) (by omega) (by omega) (by omega) (by omega) (by omega) (by omega)
            obtain ⟨I188, J189, rfl, hI188, g187, k187, ⟨z187, rfl, q187⟩⟩ := P187
            have FI188 := gr_frt FI175 g187 rfl rfl
            have FJ189 := gr_fjt FJ176 k187 rfl rfl
            have t190 := g187 0 69 rfl
            have t191 := g187 0 6 rfl
            have t192 := g187 16 (Int.toNat v1_29) rfl
            have f193 := (show 0 ≤ I188 0 71 ∧ I188 0 71 ≤ 5 from (hI188 0 71).1)
            have f194 := (show 0 ≤ I188 0 72 ∧ I188 0 72 ≤ 1000 from (hI188 0 72).1)
            have f195 := (show 0 ≤ I188 0 73 ∧ I188 0 73 ≤ 1001 from (hI188 0 73).1)
            have f196 := (show 0 ≤ I188 0 69 ∧ I188 0 69 ≤ 1000 from (hI188 0 69).1)
            have f197 := (show (-1) ≤ I188 0 6 ∧ I188 0 6 ≤ 7 from (hI188 0 6).1)
            have f198 := (show 0 ≤ I188 0 59 ∧ I188 0 59 ≤ 2000 from (hI188 0 59).1)
            refine gv_callV hD rfl (As := [.inl 0]) (st := []) rfl (by decide) rfl rfl (gr_lV hws rfl) (Nat.le_of_ble_eq_true rfl) (gz_Ev_mono (d := 12) (by decide) E187) ?_
            show gv_X _ _ (128, [(0, .inr (.inr (some 0))), (1, .inl v1_29), (2, .inl v2_38), (3, .inl v3_38), (4, .inl v4_38)], [.inl z187], gr_sh ++ ext, gr_h I188 J189)
            refine gv_if_eq (t := 148) hD rfl rfl ⟨by omega, by omega⟩ (fun c199 => ?_) (fun c199 => ?_)
            · refine gv_pick [] rfl ?_
              exact L148 I188 J189 hI188 FI188 FJ189 (by omega) (by omega) (by omega) (by omega) (by omega) (by omega) (by omega) (by omega) (by omega) (by omega)
            · refine gv_run 2 true hD (pc' := 134) (lv' := [(0, .inr (.inr (some 0))), (1, .inl v1_29), (2, .inl v2_38), (3, .inl v3_38), (4, .inl v4_38)]) (st' := [.inl 95, .inr (.inr (some 0))]) (h' := gr_h I188 J189) (C := ((True ∧ True) ∧ True)) rfl ⟨⟨trivial, trivial⟩, trivial⟩ ?_
              obtain ⟨r200, h200, E200, P200⟩ := r_need (ws0 := ws0) (tb := tb) hws htb ext I188 J189 hI188 95 ⟨by omega, by omega⟩ (by omega) (by omega) (by omega) (by omega) (by omega)
              obtain ⟨I201, J202, rfl, hI201, g200, k200, ⟨z200, rfl, q200⟩⟩ := P200
              have FI201 := gr_frt FI188 g200 rfl rfl
              have FJ202 := gr_fjt FJ189 k200 rfl rfl
              have t203 := g200 0 69 rfl
              have t204 := g200 0 6 rfl
              have t205 := g200 0 59 rfl
              have t206 := g200 16 (Int.toNat v1_29) rfl
              have f207 := (show 0 ≤ I201 0 71 ∧ I201 0 71 ≤ 5 from (hI201 0 71).1)
              have f208 := (show 0 ≤ I201 0 72 ∧ I201 0 72 ≤ 1000 from (hI201 0 72).1)
              have f209 := (show 0 ≤ I201 0 73 ∧ I201 0 73 ≤ 1001 from (hI201 0 73).1)
              have f210 := (show 0 ≤ I201 0 69 ∧ I201 0 69 ≤ 1000 from (hI201 0 69).1)
              have f211 := (show (-1) ≤ I201 0 6 ∧ I201 0 6 ≤ 7 from (hI201 0 6).1)
              have f212 := (show 0 ≤ I201 0 59 ∧ I201 0 59 ≤ 2000 from (hI201 0 59).1)
              refine gv_callV hD rfl (As := [.inl 95]) (st := []) rfl (by decide) rfl rfl (gr_lV hws rfl) (Nat.le_of_ble_eq_true rfl) (gz_Ev_mono (d := 11) (by decide) E200) ?_
              show gv_X _ _ (137, [(0, .inr (.inr (some 0))), (1, .inl v1_29), (2, .inl v2_38), (3, .inl v3_38), (4, .inl v4_38)], [.inl z200], gr_sh ++ ext, gr_h I201 J202)
              refine gv_if_eq (t := 148) hD rfl rfl ⟨by omega, by omega⟩ (fun c213 => ?_) (fun c213 => ?_)
              · refine gv_pick [] rfl ?_
                exact L148 I201 J202 hI201 FI201 FJ202 (by omega) (by omega) (by omega) (by omega) (by omega) (by omega) (by omega) (by omega) (by omega) (by omega)
              · refine gv_run 2 true hD (pc' := 142) (lv' := [(0, .inr (.inr (some 0))), (1, .inl v1_29), (2, .inl v2_38), (3, .inl v3_38), (4, .inl v4_38)]) (st' := [.inl 3, .inr (.inr (some 0))]) (h' := gr_h I201 J202) (C := ((True ∧ True) ∧ True)) rfl ⟨⟨trivial, trivial⟩, trivial⟩ ?_
                obtain ⟨r214, h214, E214, P214⟩ := r_side (ws0 := ws0) (tb := tb) hws htb ext I201 J202 hI201 3 ⟨by omega, by omega⟩ (by omega) (by omega) (by omega) (by omega) (by omega) (by omega) (by omega)
                obtain ⟨I215, J216, rfl, hI215, g214, k214, ⟨z214, rfl, q214⟩⟩ := P214
                have FI215 := gr_frt FI201 g214 rfl rfl
                have FJ216 := gr_fjt FJ202 k214 rfl rfl
                have t217 := g214 0 69 rfl
                have t218 := g214 0 6 rfl
                have t219 := g214 16 (Int.toNat v1_29) rfl
                have f220 := (show 0 ≤ I215 0 71 ∧ I215 0 71 ≤ 5 from (hI215 0 71).1)
                have f221 := (show 0 ≤ I215 0 72 ∧ I215 0 72 ≤ 1000 from (hI215 0 72).1)
                have f222 := (show 0 ≤ I215 0 73 ∧ I215 0 73 ≤ 1001 from (hI215 0 73).1)
                have f223 := (show 0 ≤ I215 0 69 ∧ I215 0 69 ≤ 1000 from (hI215 0 69).1)
                have f224 := (show (-1) ≤ I215 0 6 ∧ I215 0 6 ≤ 7 from (hI215 0 6).1)
                have f225 := (show 0 ≤ I215 0 59 ∧ I215 0 59 ≤ 2000 from (hI215 0 59).1)
                refine gv_callV hD rfl (As := [.inl 3]) (st := []) rfl (by decide) rfl rfl (gr_lV hws rfl) (Nat.le_of_ble_eq_true rfl) (gz_Ev_mono (d := 12) (by decide) E214) ?_
                show gv_X _ _ (145, [(0, .inr (.inr (some 0))), (1, .inl v1_29), (2, .inl v2_38), (3, .inl v3_38), (4, .inl v4_38)], [.inl z214], gr_sh ++ ext, gr_h I215 J216)
                refine gv_if_ne (t := 150) hD rfl rfl ⟨by omega, by omega⟩ (fun c226 => ?_) (fun c226 => ?_)
                · refine gv_pick [0, 1, 2, 3] rfl ?_
                  exact L150 I215 J216 hI215 FI215 FJ216 ⟨by omega, by omega⟩ ⟨by omega, by omega⟩ ⟨by omega, by omega⟩ (by omega) (by omega) (by omega) (by omega) (by omega) (by omega) (by omega) (by omega) (by omega) (by omega)
                · refine gv_pick [] rfl ?_
                  exact L148 I215 J216 hI215 FI215 FJ216 (by omega) (by omega) (by omega) (by omega) (by omega) (by omega) (by omega) (by omega) (by omega) (by omega)
        · refine gv_run 4 true hD (pc' := 103) (lv' := [(0, .inr (.inr (some 0))), (1, .inl v1_29), (2, .inl v2_38), (3, .inl v3_38), (4, .inl v4_38)]) (st' := [.inl 2147483647, .inl v4_38, .inr (.inr (some 63))]) (h' := gr_h I36 J37) (C := ((((True ∧ True) ∧ True) ∧ True) ∧ True)) rfl ⟨⟨⟨⟨trivial, trivial⟩, trivial⟩, trivial⟩, trivial⟩ ?_
          refine gv_run 1 true hD (pc' := 104) (lv' := [(0, .inr (.inr (some 0))), (1, .inl v1_29), (2, .inl v2_38), (3, .inl v3_38), (4, .inl v4_38)]) (st' := []) (h' := gz_up (gr_h I36 J37) 63 (Int.toNat v4_38) (.inl 2147483647)) (C := (True ∧ (0 ≤ v4_38 ∧ v4_38 < ((6 : Nat) : Int)))) rfl ⟨trivial, ⟨by omega, by omega⟩⟩ ?_
          refine gr_st hI36 FI36 rfl rfl ⟨⟨by show (-2147483648) ≤ _; omega, by show _ ≤ 2147483647; omega⟩, by show (2147483647 = -2147483648 ∨ 2147483647 = 2147483647 ∨ -16 ≤ 2147483647 ∧ 2147483647 ≤ 32015); omega⟩ (fun I227 hI227 FI227 q228 p228 => ?_)
          have t229 := p228 0 71 (fun q => absurd q.1 (by decide))
          have t230 := p228 0 72 (fun q => absurd q.1 (by decide))
          have t231 := p228 0 73 (fun q => absurd q.1 (by decide))
          have t232 := p228 0 69 (fun q => absurd q.1 (by decide))
          have t233 := p228 0 6 (fun q => absurd q.1 (by decide))
          have t234 := p228 0 59 (fun q => absurd q.1 (by decide))
          have t235 := p228 16 (Int.toNat v1_29) (fun q => absurd q.1 (by decide))
          have f236 := (show 0 ≤ I227 0 71 ∧ I227 0 71 ≤ 5 from (hI227 0 71).1)
          have f237 := (show 0 ≤ I227 0 72 ∧ I227 0 72 ≤ 1000 from (hI227 0 72).1)
          have f238 := (show 0 ≤ I227 0 73 ∧ I227 0 73 ≤ 1001 from (hI227 0 73).1)
          have f239 := (show 0 ≤ I227 0 69 ∧ I227 0 69 ≤ 1000 from (hI227 0 69).1)
          have f240 := (show (-1) ≤ I227 0 6 ∧ I227 0 6 ≤ 7 from (hI227 0 6).1)
          have f241 := (show 0 ≤ I227 0 59 ∧ I227 0 59 ≤ 2000 from (hI227 0 59).1)
          refine gv_run 2 true hD (pc' := 87) (lv' := [(4, .inl (v4_38 + 1)), (0, .inr (.inr (some 0))), (1, .inl v1_29), (2, .inl v2_38), (3, .inl v3_38)]) (st' := []) (h' := gr_h I227 J37) (C := ((True ∧ True) ∧ True)) rfl ⟨⟨trivial, trivial⟩, trivial⟩ ?_
          refine gv_pick [1, 2, 3, 4, 0] rfl ?_
          exact ih87 I227 J37 v2_38 v3_38 (v4_38 + 1) (by omega) hI227 FI227 FJ37 ⟨by omega, by omega⟩ ⟨by omega, by omega⟩ ⟨by omega, by omega⟩ ⟨by omega, by omega⟩ (by omega) (by omega) (by omega) (by omega) (by omega) (by omega) (by omega) (by omega) (by omega) (by omega)
    refine gv_run 2 true hD (pc' := 37) (lv' := [(0, .inr (.inr (some 0))), (1, .inl v1_29)]) (st' := [.inl 0, .inr (.inr (some 0))]) (h' := gr_h I J) (C := ((True ∧ True) ∧ True)) rfl ⟨⟨trivial, trivial⟩, trivial⟩ ?_
    obtain ⟨r242, h242, E242, P242⟩ := r_context (ws0 := ws0) (tb := tb) hws htb ext I J hI 0 ⟨by omega, by omega⟩ (by omega) (by omega) (by omega) (by omega) (by omega) (by omega) (by omega)
    obtain ⟨I243, J244, rfl, hI243, g242, k242, ⟨z242, rfl, q242⟩⟩ := P242
    have FI243 := gr_frt FI g242 rfl rfl
    have FJ244 := gr_fjt FJ k242 rfl rfl
    have t245 := g242 0 69 rfl
    have t246 := g242 0 6 rfl
    have t247 := g242 16 (Int.toNat v1_29) rfl
    have f248 := (show 0 ≤ I243 0 71 ∧ I243 0 71 ≤ 5 from (hI243 0 71).1)
    have f249 := (show 0 ≤ I243 0 72 ∧ I243 0 72 ≤ 1000 from (hI243 0 72).1)
    have f250 := (show 0 ≤ I243 0 73 ∧ I243 0 73 ≤ 1001 from (hI243 0 73).1)
    have f251 := (show 0 ≤ I243 0 69 ∧ I243 0 69 ≤ 1000 from (hI243 0 69).1)
    have f252 := (show (-1) ≤ I243 0 6 ∧ I243 0 6 ≤ 7 from (hI243 0 6).1)
    have f253 := (show 0 ≤ I243 0 59 ∧ I243 0 59 ≤ 2000 from (hI243 0 59).1)
    refine gv_callV hD rfl (As := [.inl 0]) (st := []) rfl (by decide) rfl rfl (gr_lV hws rfl) (Nat.le_of_ble_eq_true rfl) (gz_Ev_mono (d := 11) (by decide) E242) ?_
    show gv_X _ _ (40, [(0, .inr (.inr (some 0))), (1, .inl v1_29)], [.inl z242], gr_sh ++ ext, gr_h I243 J244)
    refine gv_if_ne (t := 45) hD rfl rfl ⟨by omega, by omega⟩ (fun c254 => ?_) (fun c254 => ?_)
    · have f255 := (show ((-2147483648) ≤ I243 0 104 ∧ I243 0 104 ≤ 2147483647) ∧ ((I243 0 104) = -2147483648 ∨ (I243 0 104) = 2147483647 ∨ -16 ≤ (I243 0 104) ∧ (I243 0 104) ≤ 32015) from hI243 0 104)
      refine gv_run 5 true hD (pc' := 53) (lv' := [(2, .inl (I243 0 104)), (0, .inr (.inr (some 0))), (1, .inl v1_29)]) (st' := [.inl 62, .inr (.inr (some 0))]) (h' := gr_h I243 J244) (C := (((((True ∧ True) ∧ True) ∧ True) ∧ True) ∧ True)) rfl ⟨⟨⟨⟨⟨trivial, trivial⟩, trivial⟩, trivial⟩, trivial⟩, trivial⟩ ?_
      obtain ⟨r256, h256, E256, P256⟩ := r_need (ws0 := ws0) (tb := tb) hws htb ext I243 J244 hI243 62 ⟨by omega, by omega⟩ (by omega) (by omega) (by omega) (by omega) (by omega)
      obtain ⟨I257, J258, rfl, hI257, g256, k256, ⟨z256, rfl, q256⟩⟩ := P256
      have FI257 := gr_frt FI243 g256 rfl rfl
      have FJ258 := gr_fjt FJ244 k256 rfl rfl
      have t259 := g256 0 69 rfl
      have t260 := g256 0 6 rfl
      have t261 := g256 0 59 rfl
      have t262 := g256 16 (Int.toNat v1_29) rfl
      have f263 := (show 0 ≤ I257 0 71 ∧ I257 0 71 ≤ 5 from (hI257 0 71).1)
      have f264 := (show 0 ≤ I257 0 72 ∧ I257 0 72 ≤ 1000 from (hI257 0 72).1)
      have f265 := (show 0 ≤ I257 0 73 ∧ I257 0 73 ≤ 1001 from (hI257 0 73).1)
      have f266 := (show 0 ≤ I257 0 69 ∧ I257 0 69 ≤ 1000 from (hI257 0 69).1)
      have f267 := (show (-1) ≤ I257 0 6 ∧ I257 0 6 ≤ 7 from (hI257 0 6).1)
      have f268 := (show 0 ≤ I257 0 59 ∧ I257 0 59 ≤ 2000 from (hI257 0 59).1)
      refine gv_callV hD rfl (As := [.inl 62]) (st := []) rfl (by decide) rfl rfl (gr_lV hws rfl) (Nat.le_of_ble_eq_true rfl) (gz_Ev_mono (d := 11) (by decide) E256) ?_
      show gv_X _ _ (56, [(2, .inl (I243 0 104)), (0, .inr (.inr (some 0))), (1, .inl v1_29)], [.inl z256], gr_sh ++ ext, gr_h I257 J258)
      refine gv_if_ne (t := 61) hD rfl rfl ⟨by omega, by omega⟩ (fun c269 => ?_) (fun c269 => ?_)
      · have f270 := (show 0 ≤ I257 0 71 ∧ I257 0 71 ≤ 5 from (hI257 0 71).1)
        refine gv_run 3 true hD (pc' := 66) (lv' := [(2, .inl (I243 0 104)), (0, .inr (.inr (some 0))), (1, .inl v1_29)]) (st' := [.inl 3, .inl (I257 0 71)]) (h' := gr_h I257 J258) (C := (((True ∧ True) ∧ True) ∧ True)) rfl ⟨⟨⟨trivial, trivial⟩, trivial⟩, trivial⟩ ?_
        refine gv_icmp_eq (t := 75) hD rfl rfl ⟨⟨by omega, by omega⟩, ⟨by omega, by omega⟩⟩ (fun c271 => ?_) (fun c271 => ?_)
        · refine gv_run 1 true hD (pc' := 76) (lv' := [(2, .inl (I243 0 104)), (0, .inr (.inr (some 0))), (1, .inl v1_29)]) (st' := [.inr (.inr (some 0))]) (h' := gr_h I257 J258) (C := (True ∧ True)) rfl ⟨trivial, trivial⟩ ?_
          obtain ⟨r272, h272, E272, P272⟩ := r_keeps (ws0 := ws0) (tb := tb) hws htb ext I257 J258 hI257   (by omega) (by omega) (by omega) (by omega)
          obtain ⟨I273, J274, rfl, hI273, g272, k272, ⟨z272, rfl, q272⟩⟩ := P272
          have FI273 := gr_frt FI257 g272 rfl rfl
          have FJ274 := gr_fjt FJ258 k272 rfl rfl
          have t275 := g272 0 71 rfl
          have t276 := g272 0 72 rfl
          have t277 := g272 0 73 rfl
          have t278 := g272 0 69 rfl
          have t279 := g272 0 6 rfl
          have t280 := g272 16 (Int.toNat v1_29) rfl
          have f281 := (show 0 ≤ I273 0 71 ∧ I273 0 71 ≤ 5 from (hI273 0 71).1)
          have f282 := (show 0 ≤ I273 0 72 ∧ I273 0 72 ≤ 1000 from (hI273 0 72).1)
          have f283 := (show 0 ≤ I273 0 73 ∧ I273 0 73 ≤ 1001 from (hI273 0 73).1)
          have f284 := (show 0 ≤ I273 0 69 ∧ I273 0 69 ≤ 1000 from (hI273 0 69).1)
          have f285 := (show (-1) ≤ I273 0 6 ∧ I273 0 6 ≤ 7 from (hI273 0 6).1)
          have f286 := (show 0 ≤ I273 0 59 ∧ I273 0 59 ≤ 2000 from (hI273 0 59).1)
          refine gv_callV hD rfl (As := []) (st := []) rfl (by decide) rfl rfl (gr_lV hws rfl) (Nat.le_of_ble_eq_true rfl) (gz_Ev_mono (d := 2) (by decide) E272) ?_
          show gv_X _ _ (79, [(2, .inl (I243 0 104)), (0, .inr (.inr (some 0))), (1, .inl v1_29)], [.inl z272], gr_sh ++ ext, gr_h I273 J274)
          refine gv_run 2 true hD (pc' := 81) (lv' := [(3, .inl z272), (2, .inl (I243 0 104)), (0, .inr (.inr (some 0))), (1, .inl v1_29)]) (st' := [.inr (.inr (some 0))]) (h' := gr_h I273 J274) (C := ((True ∧ True) ∧ True)) rfl ⟨⟨trivial, trivial⟩, trivial⟩ ?_
          obtain ⟨r287, h287, E287, P287⟩ := r_next (ws0 := ws0) (tb := tb) hws htb ext I273 J274 hI273   (by omega)
          obtain ⟨I288, J289, rfl, hI288, g287, k287, ⟨rfl, q287⟩⟩ := P287
          have FI288 := gr_frt FI273 g287 rfl rfl
          have FJ289 := gr_fjt FJ274 k287 rfl rfl
          have t290 := g287 0 69 rfl
          have t291 := g287 0 6 rfl
          have t292 := g287 0 59 rfl
          have t293 := g287 16 (Int.toNat v1_29) rfl
          have f294 := (show 0 ≤ I288 0 71 ∧ I288 0 71 ≤ 5 from (hI288 0 71).1)
          have f295 := (show 0 ≤ I288 0 72 ∧ I288 0 72 ≤ 1000 from (hI288 0 72).1)
          have f296 := (show 0 ≤ I288 0 73 ∧ I288 0 73 ≤ 1001 from (hI288 0 73).1)
          have f297 := (show 0 ≤ I288 0 69 ∧ I288 0 69 ≤ 1000 from (hI288 0 69).1)
          have f298 := (show (-1) ≤ I288 0 6 ∧ I288 0 6 ≤ 7 from (hI288 0 6).1)
          have f299 := (show 0 ≤ I288 0 59 ∧ I288 0 59 ≤ 2000 from (hI288 0 59).1)
          refine gv_callV hD rfl (As := []) (st := []) rfl (by decide) rfl rfl (gr_lV hws rfl) (Nat.le_of_ble_eq_true rfl) (gz_Ev_mono (d := 10) (by decide) E287) ?_
          show gv_X _ _ (84, [(3, .inl z272), (2, .inl (I243 0 104)), (0, .inr (.inr (some 0))), (1, .inl v1_29)], [], gr_sh ++ ext, gr_h I288 J289)
          refine gv_run 2 true hD (pc' := 87) (lv' := [(4, .inl 0), (3, .inl z272), (2, .inl (I243 0 104)), (0, .inr (.inr (some 0))), (1, .inl v1_29)]) (st' := []) (h' := gr_h I288 J289) (C := ((True ∧ True) ∧ True)) rfl ⟨⟨trivial, trivial⟩, trivial⟩ ?_
          refine gv_pick [3, 4, 2, 1, 0] rfl ?_
          exact L87 _ I288 J289 (I243 0 104) z272 0 (Nat.lt_succ_self _) hI288 FI288 FJ289 ⟨by omega, by omega⟩ ⟨by omega, by omega⟩ ⟨by omega, by omega⟩ ⟨by omega, by omega⟩ (by omega) (by omega) (by omega) (by omega) (by omega) (by omega) (by omega) (by omega) (by omega) (by omega)
        · refine gv_run 2 true hD (pc' := 71) (lv' := [(2, .inl (I243 0 104)), (0, .inr (.inr (some 0))), (1, .inl v1_29)]) (st' := [.inl 1, .inr (.inr (some 0))]) (h' := gr_h I257 J258) (C := ((True ∧ True) ∧ True)) rfl ⟨⟨trivial, trivial⟩, trivial⟩ ?_
          obtain ⟨r300, h300, E300, P300⟩ := r_no_ (ws0 := ws0) (tb := tb) hws htb ext I257 J258 hI257 1 ⟨by omega, by omega⟩ 
          obtain ⟨I301, J302, rfl, hI301, g300, k300, ⟨z300, rfl, q300⟩⟩ := P300
          have FI301 := gr_frt FI257 g300 rfl rfl
          have FJ302 := gr_fjt FJ258 k300 rfl rfl
          have t303 := g300 0 71 rfl
          have t304 := g300 0 72 rfl
          have t305 := g300 0 73 rfl
          have t306 := g300 0 69 rfl
          have t307 := g300 0 6 rfl
          have t308 := g300 0 59 rfl
          have t309 := g300 16 (Int.toNat v1_29) rfl
          have f310 := (show 0 ≤ I301 0 71 ∧ I301 0 71 ≤ 5 from (hI301 0 71).1)
          have f311 := (show 0 ≤ I301 0 72 ∧ I301 0 72 ≤ 1000 from (hI301 0 72).1)
          have f312 := (show 0 ≤ I301 0 73 ∧ I301 0 73 ≤ 1001 from (hI301 0 73).1)
          have f313 := (show 0 ≤ I301 0 69 ∧ I301 0 69 ≤ 1000 from (hI301 0 69).1)
          have f314 := (show (-1) ≤ I301 0 6 ∧ I301 0 6 ≤ 7 from (hI301 0 6).1)
          have f315 := (show 0 ≤ I301 0 59 ∧ I301 0 59 ≤ 2000 from (hI301 0 59).1)
          refine gv_callV hD rfl (As := [.inl 1]) (st := []) rfl (by decide) rfl rfl (gr_lV hws rfl) (Nat.le_of_ble_eq_true rfl) (gz_Ev_mono (d := 2) (by decide) E300) ?_
          show gv_X _ _ (74, [(2, .inl (I243 0 104)), (0, .inr (.inr (some 0))), (1, .inl v1_29)], [.inl z300], gr_sh ++ ext, gr_h I301 J302)
          exact gv_zret hD rfl (by omega) ⟨I301, J302, rfl, hI301, FI301, FJ302, ⟨_, rfl, by omega, by omega, by omega, by omega, by omega, by omega, by omega, by omega, by omega, by omega, by omega⟩⟩
      · refine gv_run 1 true hD (pc' := 60) (lv' := [(2, .inl (I243 0 104)), (0, .inr (.inr (some 0))), (1, .inl v1_29)]) (st' := [.inl 0]) (h' := gr_h I257 J258) (C := (True ∧ True)) rfl ⟨trivial, trivial⟩ ?_
        exact gv_zret hD rfl (by omega) ⟨I257, J258, rfl, hI257, FI257, FJ258, ⟨_, rfl, by omega, by omega, by omega, by omega, by omega, by omega, by omega, by omega, by omega, by omega, by omega⟩⟩
    · refine gv_run 1 true hD (pc' := 44) (lv' := [(0, .inr (.inr (some 0))), (1, .inl v1_29)]) (st' := [.inl 0]) (h' := gr_h I243 J244) (C := (True ∧ True)) rfl ⟨trivial, trivial⟩ ?_
      exact gv_zret hD rfl (by omega) ⟨I243, J244, rfl, hI243, FI243, FJ244, ⟨_, rfl, by omega, by omega, by omega, by omega, by omega, by omega, by omega, by omega, by omega, by omega, by omega⟩⟩
  have f316 := (show (-1) ≤ I 0 6 ∧ I 0 6 ≤ 7 from (hI 0 6).1)
  have f317 := (show 0 ≤ I 0 71 ∧ I 0 71 ≤ 5 from (hI 0 71).1)
  refine gv_run 6 true hD (pc' := 10) (lv' := [(1, .inl (I 0 6)), (0, .inr (.inr (some 0)))]) (st' := [.inl 3, .inl (I 0 71)]) (h' := gr_h I J) (C := ((((((True ∧ True) ∧ True) ∧ True) ∧ True) ∧ True) ∧ True)) rfl ⟨⟨⟨⟨⟨⟨trivial, trivial⟩, trivial⟩, trivial⟩, trivial⟩, trivial⟩, trivial⟩ ?_
  refine gv_icmp_ne (t := 35) hD rfl rfl ⟨⟨by omega, by omega⟩, ⟨by omega, by omega⟩⟩ (fun c318 => ?_) (fun c318 => ?_)
  · refine gv_pick [1, 0] rfl ?_
    exact L35 (I 0 6) ⟨by omega, by omega⟩ (by omega) (by omega) (by omega) (by omega) (by omega) (by omega) (by omega) (by omega) (by omega) (by omega)
  · refine gv_run 1 true hD (pc' := 14) (lv' := [(1, .inl (I 0 6)), (0, .inr (.inr (some 0)))]) (st' := [.inr (.inr (some 0))]) (h' := gr_h I J) (C := (True ∧ True)) rfl ⟨trivial, trivial⟩ ?_
    obtain ⟨r319, h319, E319, P319⟩ := r_size (ws0 := ws0) (tb := tb) hws htb ext I J hI   
    obtain ⟨rfl, ⟨z319, rfl, q319⟩⟩ := P319
    refine gv_callV hD rfl (As := []) (st := []) rfl (by decide) rfl rfl (gr_lV hws rfl) (Nat.le_of_ble_eq_true rfl) (gz_Ev_mono (d := 1) (by decide) E319) ?_
    show gv_X _ _ (17, [(1, .inl (I 0 6)), (0, .inr (.inr (some 0)))], [.inl z319], gr_sh ++ ext, gr_h I J)
    refine gv_run 1 true hD (pc' := 18) (lv' := [(1, .inl (I 0 6)), (0, .inr (.inr (some 0)))]) (st' := [.inl 1, .inl z319]) (h' := gr_h I J) (C := (True ∧ True)) rfl ⟨trivial, trivial⟩ ?_
    refine gv_icmp_lt (t := 29) hD rfl rfl ⟨⟨by omega, by omega⟩, ⟨by omega, by omega⟩⟩ (fun c320 => ?_) (fun c320 => ?_)
    · refine gv_pick [1] rfl ?_
      exact L29 (by omega) (by omega) (by omega) (by omega) (by omega) (by omega) (by omega) (by omega) (by omega) (by omega)
    · refine gv_run 1 true hD (pc' := 22) (lv' := [(1, .inl (I 0 6)), (0, .inr (.inr (some 0)))]) (st' := [.inr (.inr (some 0))]) (h' := gr_h I J) (C := (True ∧ True)) rfl ⟨trivial, trivial⟩ ?_
      obtain ⟨r321, h321, E321, P321⟩ := r_size (ws0 := ws0) (tb := tb) hws htb ext I J hI   
      obtain ⟨rfl, ⟨z321, rfl, q321⟩⟩ := P321
      refine gv_callV hD rfl (As := []) (st := []) rfl (by decide) rfl rfl (gr_lV hws rfl) (Nat.le_of_ble_eq_true rfl) (gz_Ev_mono (d := 1) (by decide) E321) ?_
      show gv_X _ _ (25, [(1, .inl (I 0 6)), (0, .inr (.inr (some 0)))], [.inl z321], gr_sh ++ ext, gr_h I J)
      refine gv_run 1 true hD (pc' := 26) (lv' := [(1, .inl (I 0 6)), (0, .inr (.inr (some 0)))]) (st' := [.inl 3, .inl z321]) (h' := gr_h I J) (C := (True ∧ True)) rfl ⟨trivial, trivial⟩ ?_
      refine gv_icmp_le (t := 35) hD rfl rfl ⟨⟨by omega, by omega⟩, ⟨by omega, by omega⟩⟩ (fun c322 => ?_) (fun c322 => ?_)
      · refine gv_pick [1, 0] rfl ?_
        exact L35 (I 0 6) ⟨by omega, by omega⟩ (by omega) (by omega) (by omega) (by omega) (by omega) (by omega) (by omega) (by omega) (by omega) (by omega)
      · refine gv_pick [1] rfl ?_
        exact L29 (by omega) (by omega) (by omega) (by omega) (by omega) (by omega) (by omega) (by omega) (by omega) (by omega)
