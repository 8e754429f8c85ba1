set_option maxHeartbeats 4000000 in
set_option maxRecDepth 100000 in
theorem r_form {ws0 : List Cond} {tb : String → gz_T} (hws : ∀ w ∈ gr_ws, w ∈ ws0) (htb : tb RX13 = gr_T) (ext : gz_Sh) (I : gr_I) (J : gr_J) (hI : gr_Inv I)   (x0 : I 0 71 = 5 ∨ I 0 73 ≤ I 0 69) (x1 : I 0 72 ≤ I 0 69) (x2 : I 0 71 = 0 ∨ (I 0 72 < I 0 73 ∧ I 0 72 < I 0 69)) (x3 : I 0 71 = 3 → 2 ≤ I 0 73 - I 0 72 ∧ I 0 73 - I 0 72 ≤ 14) (x4 : I 0 72 ≤ I 0 73) (x5 : I 0 59 + I 0 69 - I 0 72 ≤ 1900) (x6 : I 0 42 + I 0 69 - I 0 72 ≤ 1900) : ∃ r h', gz_Ev ws0 tb 11 (yX13_form, cX13_form, 1, (some .boolean)) [.inr (.inr (some 0))] (gr_sh ++ ext) (gr_h I J) r (gr_sh ++ ext) h' 0 0 ∧ (∃ (I' : gr_I) (J' : gr_J), h' = gr_h I' J' ∧ gr_Inv I' ∧ gr_fr [42, 59, 71, 72, 73, 74, 75, 76, 77] [35, 51, 57] I I' ∧ gr_fj [42, 59, 71, 72, 73, 74, 75, 76, 77] [35, 51, 57] J J' ∧ (∃ z : Int, r = some (.inl z) ∧ 0 ≤ z ∧ z ≤ 1 ∧ (I' 0 71 = 5 ∨ I' 0 73 ≤ I' 0 69) ∧ (I' 0 72 ≤ I' 0 69) ∧ (I' 0 71 = 0 ∨ (I' 0 72 < I' 0 73 ∧ I' 0 72 < I' 0 69)) ∧ (I' 0 71 = 3 → 2 ≤ I' 0 73 - I' 0 72 ∧ I' 0 73 - I' 0 72 ≤ 14) ∧ (I' 0 72 ≤ I' 0 73) ∧ (I' 0 69 = I 0 69) ∧ (I 0 73 ≤ I' 0 73) ∧ (I 0 72 ≤ I' 0 72) ∧ (I' 0 59 - I' 0 72 ≤ I 0 59 - I 0 72) ∧ (I' 0 42 - I' 0 72 ≤ I 0 42 - I 0 72) ∧ (I 0 42 ≤ I' 0 42) ∧ (z = 0 ∨ I 0 72 < I' 0 72))) := by
  have FI : gr_fr [42, 59, 71, 72, 73, 74, 75, 76, 77] [35, 51, 57] I I := fun _ _ _ => rfl
  have FJ : gr_fj [42, 59, 71, 72, 73, 74, 75, 76, 77] [35, 51, 57] J J := fun _ _ _ => rfl
  have hD : gv_D (gr_E ws0 tb 10 (yX13_form, cX13_form, 1, (some .boolean)) kX13_form) := gq_ok oX13_form
  refine gr_ev (d := 10) (l := kX13_form) (Po := fun r h' => (∃ (I' : gr_I) (J' : gr_J), h' = gr_h I' J' ∧ gr_Inv I' ∧ gr_fr [42, 59, 71, 72, 73, 74, 75, 76, 77] [35, 51, 57] I I' ∧ gr_fj [42, 59, 71, 72, 73, 74, 75, 76, 77] [35, 51, 57] J J' ∧ (∃ z : Int, r = some (.inl z) ∧ 0 ≤ z ∧ z ≤ 1 ∧ (I' 0 71 = 5 ∨ I' 0 73 ≤ I' 0 69) ∧ (I' 0 72 ≤ I' 0 69) ∧ (I' 0 71 = 0 ∨ (I' 0 72 < I' 0 73 ∧ I' 0 72 < I' 0 69)) ∧ (I' 0 71 = 3 → 2 ≤ I' 0 73 - I' 0 72 ∧ I' 0 73 - I' 0 72 ≤ 14) ∧ (I' 0 72 ≤ I' 0 73) ∧ (I' 0 69 = I 0 69) ∧ (I 0 73 ≤ I' 0 73) ∧ (I 0 72 ≤ I' 0 72) ∧ (I' 0 59 - I' 0 72 ≤ I 0 59 - I 0 72) ∧ (I' 0 42 - I' 0 72 ≤ I 0 42 - I 0 72) ∧ (I 0 42 ≤ I' 0 42) ∧ (z = 0 ∨ I 0 72 < I' 0 72)))) htb rfl (Nat.le_of_ble_eq_true rfl) ?_
  have f1 := (show 0 ≤ I 0 71 ∧ I 0 71 ≤ 5 from (hI 0 71).1)
  have f2 := (show 0 ≤ I 0 72 ∧ I 0 72 ≤ 1000 from (hI 0 72).1)
  have f3 := (show 0 ≤ I 0 73 ∧ I 0 73 ≤ 1001 from (hI 0 73).1)
  have f4 := (show 0 ≤ I 0 69 ∧ I 0 69 ≤ 1000 from (hI 0 69).1)
  have f5 := (show 0 ≤ I 0 59 ∧ I 0 59 ≤ 2000 from (hI 0 59).1)
  have f6 := (show 0 ≤ I 0 42 ∧ I 0 42 ≤ 2000 from (hI 0 42).1)
  have f7 := (show 0 ≤ I 0 74 ∧ I 0 74 ≤ 999999 from (hI 0 74).1)
  have L0 : ∀ (n : Nat) (I8 : gr_I) (J9 : gr_J) , (1001 - I8 0 72).toNat < n → gr_Inv I8 → gr_fr [42, 59, 71, 72, 73, 74, 75, 76, 77] [35, 51, 57] I I8 → gr_fj [42, 59, 71, 72, 73, 74, 75, 76, 77] [35, 51, 57] J J9 → ((I8 0 59 - I8 0 72 ≤ I 0 59 - I 0 72) ∧ (I8 0 42 - I8 0 72 ≤ I 0 42 - I 0 72) ∧ (I8 0 71 = 5 ∨ I8 0 73 ≤ I8 0 69) ∧ (I8 0 72 ≤ I8 0 69) ∧ (I8 0 71 = 0 ∨ (I8 0 72 < I8 0 73 ∧ I8 0 72 < I8 0 69)) ∧ (I8 0 71 = 3 → 2 ≤ I8 0 73 - I8 0 72 ∧ I8 0 73 - I8 0 72 ≤ 14) ∧ (I8 0 72 ≤ I8 0 73) ∧ (I8 0 69 = I 0 69) ∧ (I 0 73 ≤ I8 0 73) ∧ (I 0 72 ≤ I8 0 72) ∧ (I 0 42 ≤ I8 0 42)) → gv_X (gr_E ws0 tb 10 (yX13_form, cX13_form, 1, (some .boolean)) kX13_form) (gv_Q cX13_form (some .boolean) (gr_sh ++ ext) (fun r h' => (∃ (I' : gr_I) (J' : gr_J), h' = gr_h I' J' ∧ gr_Inv I' ∧ gr_fr [42, 59, 71, 72, 73, 74, 75, 76, 77] [35, 51, 57] I I' ∧ gr_fj [42, 59, 71, 72, 73, 74, 75, 76, 77] [35, 51, 57] J J' ∧ (∃ z : Int, r = some (.inl z) ∧ 0 ≤ z ∧ z ≤ 1 ∧ (I' 0 71 = 5 ∨ I' 0 73 ≤ I' 0 69) ∧ (I' 0 72 ≤ I' 0 69) ∧ (I' 0 71 = 0 ∨ (I' 0 72 < I' 0 73 ∧ I' 0 72 < I' 0 69)) ∧ (I' 0 71 = 3 → 2 ≤ I' 0 73 - I' 0 72 ∧ I' 0 73 - I' 0 72 ≤ 14) ∧ (I' 0 72 ≤ I' 0 73) ∧ (I' 0 69 = I 0 69) ∧ (I 0 73 ≤ I' 0 73) ∧ (I 0 72 ≤ I' 0 72) ∧ (I' 0 59 - I' 0 72 ≤ I 0 59 - I 0 72) ∧ (I' 0 42 - I' 0 72 ≤ I 0 42 - I 0 72) ∧ (I 0 42 ≤ I' 0 42) ∧ (z = 0 ∨ I 0 72 < I' 0 72))))) (0, [(0, .inr (.inr (some 0)))], [], gr_sh ++ ext, gr_h I8 J9) := by
    intro n
    induction n with
    | zero => intro I8 J9 hn; omega
    | succ n ih0 =>
      intro I8 J9 hn hI8 FI8 FJ9 m_10
      obtain ⟨e0_10, e1_10, e2_10, e3_10, e4_10, e5_10, e6_10, e7_10, e8_10, e9_10, e10_10⟩ := m_10
      have f11 := (show 0 ≤ I8 0 71 ∧ I8 0 71 ≤ 5 from (hI8 0 71).1)
      have f12 := (show 0 ≤ I8 0 72 ∧ I8 0 72 ≤ 1000 from (hI8 0 72).1)
      have f13 := (show 0 ≤ I8 0 73 ∧ I8 0 73 ≤ 1001 from (hI8 0 73).1)
      have f14 := (show 0 ≤ I8 0 69 ∧ I8 0 69 ≤ 1000 from (hI8 0 69).1)
      have f15 := (show 0 ≤ I8 0 59 ∧ I8 0 59 ≤ 2000 from (hI8 0 59).1)
      have f16 := (show 0 ≤ I8 0 42 ∧ I8 0 42 ≤ 2000 from (hI8 0 42).1)
      have f17 := (show 0 ≤ I8 0 74 ∧ I8 0 74 ≤ 999999 from (hI8 0 74).1)
      have L24 : ((I8 0 59 - I8 0 72 ≤ I 0 59 - I 0 72) ∧ (I8 0 42 - I8 0 72 ≤ I 0 42 - I 0 72) ∧ (I8 0 71 = 5 ∨ I8 0 73 ≤ I8 0 69) ∧ (I8 0 72 ≤ I8 0 69) ∧ (I8 0 71 = 0 ∨ (I8 0 72 < I8 0 73 ∧ I8 0 72 < I8 0 69)) ∧ (I8 0 71 = 3 → 2 ≤ I8 0 73 - I8 0 72 ∧ I8 0 73 - I8 0 72 ≤ 14) ∧ (I8 0 72 ≤ I8 0 73) ∧ (I8 0 69 = I 0 69) ∧ (I 0 73 ≤ I8 0 73) ∧ (I 0 72 ≤ I8 0 72) ∧ (I 0 42 ≤ I8 0 42)) → gv_X (gr_E ws0 tb 10 (yX13_form, cX13_form, 1, (some .boolean)) kX13_form) (gv_Q cX13_form (some .boolean) (gr_sh ++ ext) (fun r h' => (∃ (I' : gr_I) (J' : gr_J), h' = gr_h I' J' ∧ gr_Inv I' ∧ gr_fr [42, 59, 71, 72, 73, 74, 75, 76, 77] [35, 51, 57] I I' ∧ gr_fj [42, 59, 71, 72, 73, 74, 75, 76, 77] [35, 51, 57] J J' ∧ (∃ z : Int, r = some (.inl z) ∧ 0 ≤ z ∧ z ≤ 1 ∧ (I' 0 71 = 5 ∨ I' 0 73 ≤ I' 0 69) ∧ (I' 0 72 ≤ I' 0 69) ∧ (I' 0 71 = 0 ∨ (I' 0 72 < I' 0 73 ∧ I' 0 72 < I' 0 69)) ∧ (I' 0 71 = 3 → 2 ≤ I' 0 73 - I' 0 72 ∧ I' 0 73 - I' 0 72 ≤ 14) ∧ (I' 0 72 ≤ I' 0 73) ∧ (I' 0 69 = I 0 69) ∧ (I 0 73 ≤ I' 0 73) ∧ (I 0 72 ≤ I' 0 72) ∧ (I' 0 59 - I' 0 72 ≤ I 0 59 - I 0 72) ∧ (I' 0 42 - I' 0 72 ≤ I 0 42 - I 0 72) ∧ (I 0 42 ≤ I' 0 42) ∧ (z = 0 ∨ I 0 72 < I' 0 72))))) (24, [(0, .inr (.inr (some 0)))], [], gr_sh ++ ext, gr_h I8 J9) := by
        intro m_18
        obtain ⟨e0_18, e1_18, e2_18, e3_18, e4_18, e5_18, e6_18, e7_18, e8_18, e9_18, e10_18⟩ := m_18
        have f19 := (show 0 ≤ I8 0 71 ∧ I8 0 71 ≤ 5 from (hI8 0 71).1)
        have f20 := (show 0 ≤ I8 0 72 ∧ I8 0 72 ≤ 1000 from (hI8 0 72).1)
        have f21 := (show 0 ≤ I8 0 73 ∧ I8 0 73 ≤ 1001 from (hI8 0 73).1)
        have f22 := (show 0 ≤ I8 0 69 ∧ I8 0 69 ≤ 1000 from (hI8 0 69).1)
        have f23 := (show 0 ≤ I8 0 59 ∧ I8 0 59 ≤ 2000 from (hI8 0 59).1)
        have f24 := (show 0 ≤ I8 0 42 ∧ I8 0 42 ≤ 2000 from (hI8 0 42).1)
        have f25 := (show 0 ≤ I8 0 74 ∧ I8 0 74 ≤ 999999 from (hI8 0 74).1)
        refine gv_run 2 true hD (pc' := 26) (lv' := [(0, .inr (.inr (some 0)))]) (st' := [.inl 5, .inr (.inr (some 0))]) (h' := gr_h I8 J9) (C := ((True ∧ True) ∧ True)) rfl ⟨⟨trivial, trivial⟩, trivial⟩ ?_
        obtain ⟨r26, h26, E26, P26⟩ := r_no_ (ws0 := ws0) (tb := tb) hws htb ext I8 J9 hI8 5 ⟨by omega, by omega⟩ 
        obtain ⟨I27, J28, rfl, hI27, g26, k26, ⟨z26, rfl, q26⟩⟩ := P26
        have FI27 := gr_frt FI8 g26 rfl rfl
        have FJ28 := gr_fjt FJ9 k26 rfl rfl
        have t29 := g26 0 71 rfl
        have t30 := g26 0 72 rfl
        have t31 := g26 0 73 rfl
        have t32 := g26 0 69 rfl
        have t33 := g26 0 59 rfl
        have t34 := g26 0 42 rfl
        have t35 := g26 0 74 rfl
        have f36 := (show 0 ≤ I27 0 71 ∧ I27 0 71 ≤ 5 from (hI27 0 71).1)
        have f37 := (show 0 ≤ I27 0 72 ∧ I27 0 72 ≤ 1000 from (hI27 0 72).1)
        have f38 := (show 0 ≤ I27 0 73 ∧ I27 0 73 ≤ 1001 from (hI27 0 73).1)
        have f39 := (show 0 ≤ I27 0 69 ∧ I27 0 69 ≤ 1000 from (hI27 0 69).1)
        have f40 := (show 0 ≤ I27 0 59 ∧ I27 0 59 ≤ 2000 from (hI27 0 59).1)
        have f41 := (show 0 ≤ I27 0 42 ∧ I27 0 42 ≤ 2000 from (hI27 0 42).1)
        have f42 := (show 0 ≤ I27 0 74 ∧ I27 0 74 ≤ 999999 from (hI27 0 74).1)
        refine gv_callV hD rfl (As := [.inl 5]) (st := []) rfl (by decide) rfl rfl (gr_lV hws rfl) (Nat.le_of_ble_eq_true rfl) (gz_Ev_mono (d := 2) (by decide) E26) ?_
        show gv_X _ _ (29, [(0, .inr (.inr (some 0)))], [.inl z26], gr_sh ++ ext, gr_h I27 J28)
        exact gv_zret hD rfl (by omega) ⟨I27, J28, rfl, hI27, FI27, FJ28, ⟨_, rfl, by omega⟩⟩
      have L91 : ∀ (I43 : gr_I) (J44 : gr_J) , gr_Inv I43 → gr_fr [42, 59, 71, 72, 73, 74, 75, 76, 77] [35, 51, 57] I I43 → gr_fj [42, 59, 71, 72, 73, 74, 75, 76, 77] [35, 51, 57] J J44 → ((I43 0 59 - I43 0 73 ≤ I 0 59 - I 0 72) ∧ (I43 0 42 - I43 0 73 ≤ I 0 42 - I 0 72) ∧ (¬ I43 0 71 = 5) ∧ (¬ I43 0 71 = 0) ∧ (I8 0 72 = I43 0 72) ∧ (I43 0 71 = 5 ∨ I43 0 73 ≤ I43 0 69) ∧ (I43 0 72 ≤ I43 0 69) ∧ (I43 0 71 = 0 ∨ (I43 0 72 < I43 0 73 ∧ I43 0 72 < I43 0 69)) ∧ (I43 0 71 = 3 → 2 ≤ I43 0 73 - I43 0 72 ∧ I43 0 73 - I43 0 72 ≤ 14) ∧ (I43 0 72 ≤ I43 0 73) ∧ (I43 0 69 = I 0 69) ∧ (I 0 73 ≤ I43 0 73) ∧ (I 0 72 ≤ I43 0 72) ∧ (I 0 42 ≤ I43 0 42)) → gv_X (gr_E ws0 tb 10 (yX13_form, cX13_form, 1, (some .boolean)) kX13_form) (gv_Q cX13_form (some .boolean) (gr_sh ++ ext) (fun r h' => (∃ (I' : gr_I) (J' : gr_J), h' = gr_h I' J' ∧ gr_Inv I' ∧ gr_fr [42, 59, 71, 72, 73, 74, 75, 76, 77] [35, 51, 57] I I' ∧ gr_fj [42, 59, 71, 72, 73, 74, 75, 76, 77] [35, 51, 57] J J' ∧ (∃ z : Int, r = some (.inl z) ∧ 0 ≤ z ∧ z ≤ 1 ∧ (I' 0 71 = 5 ∨ I' 0 73 ≤ I' 0 69) ∧ (I' 0 72 ≤ I' 0 69) ∧ (I' 0 71 = 0 ∨ (I' 0 72 < I' 0 73 ∧ I' 0 72 < I' 0 69)) ∧ (I' 0 71 = 3 → 2 ≤ I' 0 73 - I' 0 72 ∧ I' 0 73 - I' 0 72 ≤ 14) ∧ (I' 0 72 ≤ I' 0 73) ∧ (I' 0 69 = I 0 69) ∧ (I 0 73 ≤ I' 0 73) ∧ (I 0 72 ≤ I' 0 72) ∧ (I' 0 59 - I' 0 72 ≤ I 0 59 - I 0 72) ∧ (I' 0 42 - I' 0 72 ≤ I 0 42 - I 0 72) ∧ (I 0 42 ≤ I' 0 42) ∧ (z = 0 ∨ I 0 72 < I' 0 72))))) (91, [(0, .inr (.inr (some 0)))], [], gr_sh ++ ext, gr_h I43 J44) := by
        intro I43 J44 hI43 FI43 FJ44 m_45
        obtain ⟨e0_45, e1_45, e2_45, e3_45, e4_45, e5_45, e6_45, e7_45, e8_45, e9_45, e10_45, e11_45, e12_45, e13_45⟩ := m_45
        have f46 := (show 0 ≤ I43 0 71 ∧ I43 0 71 ≤ 5 from (hI43 0 71).1)
        have f47 := (show 0 ≤ I43 0 72 ∧ I43 0 72 ≤ 1000 from (hI43 0 72).1)
        have f48 := (show 0 ≤ I43 0 73 ∧ I43 0 73 ≤ 1001 from (hI43 0 73).1)
        have f49 := (show 0 ≤ I43 0 69 ∧ I43 0 69 ≤ 1000 from (hI43 0 69).1)
        have f50 := (show 0 ≤ I43 0 59 ∧ I43 0 59 ≤ 2000 from (hI43 0 59).1)
        have f51 := (show 0 ≤ I43 0 42 ∧ I43 0 42 ≤ 2000 from (hI43 0 42).1)
        have f52 := (show 0 ≤ I43 0 74 ∧ I43 0 74 ≤ 999999 from (hI43 0 74).1)
        refine gv_run 1 true hD (pc' := 92) (lv' := [(0, .inr (.inr (some 0)))]) (st' := [.inr (.inr (some 0))]) (h' := gr_h I43 J44) (C := (True ∧ True)) rfl ⟨trivial, trivial⟩ ?_
        obtain ⟨r53, h53, E53, P53⟩ := r_next (ws0 := ws0) (tb := tb) hws htb ext I43 J44 hI43   (by omega)
        obtain ⟨I54, J55, rfl, hI54, g53, k53, ⟨rfl, q53⟩⟩ := P53
        have FI54 := gr_frt FI43 g53 rfl rfl
        have FJ55 := gr_fjt FJ44 k53 rfl rfl
        have t56 := g53 0 69 rfl
        have t57 := g53 0 59 rfl
        have t58 := g53 0 42 rfl
        have f59 := (show 0 ≤ I54 0 71 ∧ I54 0 71 ≤ 5 from (hI54 0 71).1)
        have f60 := (show 0 ≤ I54 0 72 ∧ I54 0 72 ≤ 1000 from (hI54 0 72).1)
        have f61 := (show 0 ≤ I54 0 73 ∧ I54 0 73 ≤ 1001 from (hI54 0 73).1)
        have f62 := (show 0 ≤ I54 0 69 ∧ I54 0 69 ≤ 1000 from (hI54 0 69).1)
        have f63 := (show 0 ≤ I54 0 59 ∧ I54 0 59 ≤ 2000 from (hI54 0 59).1)
        have f64 := (show 0 ≤ I54 0 42 ∧ I54 0 42 ≤ 2000 from (hI54 0 42).1)
        have f65 := (show 0 ≤ I54 0 74 ∧ I54 0 74 ≤ 999999 from (hI54 0 74).1)
        refine gv_callV hD rfl (As := []) (st := []) rfl (by decide) rfl rfl (gr_lV hws rfl) (Nat.le_of_ble_eq_true rfl) (gz_Ev_mono (d := 10) (by decide) E53) ?_
        show gv_X _ _ (95, [(0, .inr (.inr (some 0)))], [], gr_sh ++ ext, gr_h I54 J55)
        refine gv_run 2 true hD (pc' := 98) (lv' := [(0, .inr (.inr (some 0)))]) (st' := [.inl 43, .inr (.inr (some 0))]) (h' := gr_h I54 J55) (C := ((True ∧ True) ∧ True)) rfl ⟨⟨trivial, trivial⟩, trivial⟩ ?_
        obtain ⟨r66, h66, E66, P66⟩ := r_sign (ws0 := ws0) (tb := tb) hws htb ext I54 J55 hI54 43 ⟨by omega, by omega⟩ (by omega)
        obtain ⟨rfl, ⟨z66, rfl, q66⟩⟩ := P66
        refine gv_callV hD rfl (As := [.inl 43]) (st := []) rfl (by decide) rfl rfl (gr_lV hws rfl) (Nat.le_of_ble_eq_true rfl) (gz_Ev_mono (d := 1) (by decide) E66) ?_
        show gv_X _ _ (101, [(0, .inr (.inr (some 0)))], [.inl z66], gr_sh ++ ext, gr_h I54 J55)
        refine gv_if_ne (t := 106) hD rfl rfl ⟨by omega, by omega⟩ (fun c67 => ?_) (fun c67 => ?_)
        · refine gv_run 1 true hD (pc' := 107) (lv' := [(0, .inr (.inr (some 0)))]) (st' := [.inr (.inr (some 0))]) (h' := gr_h I54 J55) (C := (True ∧ True)) rfl ⟨trivial, trivial⟩ ?_
          obtain ⟨r68, h68, E68, P68⟩ := r_next (ws0 := ws0) (tb := tb) hws htb ext I54 J55 hI54   (by omega)
          obtain ⟨I69, J70, rfl, hI69, g68, k68, ⟨rfl, q68⟩⟩ := P68
          have FI69 := gr_frt FI54 g68 rfl rfl
          have FJ70 := gr_fjt FJ55 k68 rfl rfl
          have t71 := g68 0 69 rfl
          have t72 := g68 0 59 rfl
          have t73 := g68 0 42 rfl
          have f74 := (show 0 ≤ I69 0 71 ∧ I69 0 71 ≤ 5 from (hI69 0 71).1)
          have f75 := (show 0 ≤ I69 0 72 ∧ I69 0 72 ≤ 1000 from (hI69 0 72).1)
          have f76 := (show 0 ≤ I69 0 73 ∧ I69 0 73 ≤ 1001 from (hI69 0 73).1)
          have f77 := (show 0 ≤ I69 0 69 ∧ I69 0 69 ≤ 1000 from (hI69 0 69).1)
          have f78 := (show 0 ≤ I69 0 59 ∧ I69 0 59 ≤ 2000 from (hI69 0 59).1)
          have f79 := (show 0 ≤ I69 0 42 ∧ I69 0 42 ≤ 2000 from (hI69 0 42).1)
          have f80 := (show 0 ≤ I69 0 74 ∧ I69 0 74 ≤ 999999 from (hI69 0 74).1)
          refine gv_callV hD rfl (As := []) (st := []) rfl (by decide) rfl rfl (gr_lV hws rfl) (Nat.le_of_ble_eq_true rfl) (gz_Ev_mono (d := 10) (by decide) E68) ?_
          show gv_X _ _ (110, [(0, .inr (.inr (some 0)))], [], gr_sh ++ ext, gr_h I69 J70)
          refine gv_run 1 true hD (pc' := 0) (lv' := [(0, .inr (.inr (some 0)))]) (st' := []) (h' := gr_h I69 J70) (C := (True ∧ True)) rfl ⟨trivial, trivial⟩ ?_
          exact ih0 I69 J70 (by omega) hI69 FI69 FJ70 (by omega)
        · refine gv_run 1 true hD (pc' := 105) (lv' := [(0, .inr (.inr (some 0)))]) (st' := [.inl 1]) (h' := gr_h I54 J55) (C := (True ∧ True)) rfl ⟨trivial, trivial⟩ ?_
          exact gv_zret hD rfl (by omega) ⟨I54, J55, rfl, hI54, FI54, FJ55, ⟨_, rfl, by omega⟩⟩
      have f81 := (show 0 ≤ I8 0 71 ∧ I8 0 71 ≤ 5 from (hI8 0 71).1)
      refine gv_run 3 true hD (pc' := 5) (lv' := [(0, .inr (.inr (some 0)))]) (st' := [.inl 2, .inl (I8 0 71)]) (h' := gr_h I8 J9) (C := (((True ∧ True) ∧ True) ∧ True)) rfl ⟨⟨⟨trivial, trivial⟩, trivial⟩, trivial⟩ ?_
      refine gv_icmp_ne (t := 54) hD rfl rfl ⟨⟨by omega, by omega⟩, ⟨by omega, by omega⟩⟩ (fun c82 => ?_) (fun c82 => ?_)
      · have f83 := (show 0 ≤ I8 0 71 ∧ I8 0 71 ≤ 5 from (hI8 0 71).1)
        refine gv_run 3 true hD (pc' := 59) (lv' := [(0, .inr (.inr (some 0)))]) (st' := [.inl 3, .inl (I8 0 71)]) (h' := gr_h I8 J9) (C := (((True ∧ True) ∧ True) ∧ True)) rfl ⟨⟨⟨trivial, trivial⟩, trivial⟩, trivial⟩ ?_
        refine gv_icmp_ne (t := 85) hD rfl rfl ⟨⟨by omega, by omega⟩, ⟨by omega, by omega⟩⟩ (fun c84 => ?_) (fun c84 => ?_)
        · refine gv_run 2 true hD (pc' := 87) (lv' := [(0, .inr (.inr (some 0)))]) (st' := [.inl 1, .inr (.inr (some 0))]) (h' := gr_h I8 J9) (C := ((True ∧ True) ∧ True)) rfl ⟨⟨trivial, trivial⟩, trivial⟩ ?_
          obtain ⟨r85, h85, E85, P85⟩ := r_no_ (ws0 := ws0) (tb := tb) hws htb ext I8 J9 hI8 1 ⟨by omega, by omega⟩ 
          obtain ⟨I86, J87, rfl, hI86, g85, k85, ⟨z85, rfl, q85⟩⟩ := P85
          have FI86 := gr_frt FI8 g85 rfl rfl
          have FJ87 := gr_fjt FJ9 k85 rfl rfl
          have t88 := g85 0 71 rfl
          have t89 := g85 0 72 rfl
          have t90 := g85 0 73 rfl
          have t91 := g85 0 69 rfl
          have t92 := g85 0 59 rfl
          have t93 := g85 0 42 rfl
          have t94 := g85 0 74 rfl
          have f95 := (show 0 ≤ I86 0 71 ∧ I86 0 71 ≤ 5 from (hI86 0 71).1)
          have f96 := (show 0 ≤ I86 0 72 ∧ I86 0 72 ≤ 1000 from (hI86 0 72).1)
          have f97 := (show 0 ≤ I86 0 73 ∧ I86 0 73 ≤ 1001 from (hI86 0 73).1)
          have f98 := (show 0 ≤ I86 0 69 ∧ I86 0 69 ≤ 1000 from (hI86 0 69).1)
          have f99 := (show 0 ≤ I86 0 59 ∧ I86 0 59 ≤ 2000 from (hI86 0 59).1)
          have f100 := (show 0 ≤ I86 0 42 ∧ I86 0 42 ≤ 2000 from (hI86 0 42).1)
          have f101 := (show 0 ≤ I86 0 74 ∧ I86 0 74 ≤ 999999 from (hI86 0 74).1)
          refine gv_callV hD rfl (As := [.inl 1]) (st := []) rfl (by decide) rfl rfl (gr_lV hws rfl) (Nat.le_of_ble_eq_true rfl) (gz_Ev_mono (d := 2) (by decide) E85) ?_
          show gv_X _ _ (90, [(0, .inr (.inr (some 0)))], [.inl z85], gr_sh ++ ext, gr_h I86 J87)
          exact gv_zret hD rfl (by omega) ⟨I86, J87, rfl, hI86, FI86, FJ87, ⟨_, rfl, by omega⟩⟩
        · have f102 := (show 0 ≤ I8 0 42 ∧ I8 0 42 ≤ 2000 from (hI8 0 42).1)
          refine gv_run 7 true hD (pc' := 73) (lv' := [(0, .inr (.inr (some 0)))]) (st' := [.inl 1, .inl (I8 0 42), .inr (.inr (some 0)), .inl (I8 0 42), .inr (.inr (some 35))]) (h' := gr_h I8 J9) (C := (((((((True ∧ True) ∧ True) ∧ True) ∧ True) ∧ True) ∧ True) ∧ True)) rfl ⟨⟨⟨⟨⟨⟨⟨trivial, trivial⟩, trivial⟩, trivial⟩, trivial⟩, trivial⟩, trivial⟩, trivial⟩ ?_
          refine gv_run 2 true hD (pc' := 77) (lv' := [(0, .inr (.inr (some 0)))]) (st' := [.inl (I8 0 42), .inr (.inr (some 35))]) (h' := gz_up (gr_h I8 J9) 0 42 (.inl (((I8 0 42) + 1)))) (C := ((True ∧ True) ∧ True)) rfl ⟨⟨trivial, trivial⟩, trivial⟩ ?_
          refine gr_st hI8 FI8 rfl rfl ⟨⟨by show 0 ≤ _; omega, by show _ ≤ 2000; omega⟩, trivial⟩ (fun I103 hI103 FI103 q104 p104 => ?_)
          have t105 := p104 0 71 (by decide)
          have t106 := p104 0 72 (by decide)
          have t107 := p104 0 73 (by decide)
          have t108 := p104 0 69 (by decide)
          have t109 := p104 0 59 (by decide)
          have t110 := p104 0 74 (by decide)
          have f111 := (show 0 ≤ I103 0 71 ∧ I103 0 71 ≤ 5 from (hI103 0 71).1)
          have f112 := (show 0 ≤ I103 0 72 ∧ I103 0 72 ≤ 1000 from (hI103 0 72).1)
          have f113 := (show 0 ≤ I103 0 73 ∧ I103 0 73 ≤ 1001 from (hI103 0 73).1)
          have f114 := (show 0 ≤ I103 0 69 ∧ I103 0 69 ≤ 1000 from (hI103 0 69).1)
          have f115 := (show 0 ≤ I103 0 59 ∧ I103 0 59 ≤ 2000 from (hI103 0 59).1)
          have f116 := (show 0 ≤ I103 0 42 ∧ I103 0 42 ≤ 2000 from (hI103 0 42).1)
          have f117 := (show 0 ≤ I103 0 74 ∧ I103 0 74 ≤ 999999 from (hI103 0 74).1)
          refine gv_run 1 true hD (pc' := 78) (lv' := [(0, .inr (.inr (some 0)))]) (st' := [.inr (.inr (some 0)), .inl (I8 0 42), .inr (.inr (some 35))]) (h' := gr_h I103 J9) (C := (True ∧ True)) rfl ⟨trivial, trivial⟩ ?_
          obtain ⟨r118, h118, E118, P118⟩ := r_keeps (ws0 := ws0) (tb := tb) hws htb ext I103 J9 hI103   (by omega) (by omega) (by omega) (by omega)
          obtain ⟨I119, J120, rfl, hI119, g118, k118, ⟨z118, rfl, q118⟩⟩ := P118
          have FI119 := gr_frt FI103 g118 rfl rfl
          have FJ120 := gr_fjt FJ9 k118 rfl rfl
          have t121 := g118 0 71 rfl
          have t122 := g118 0 72 rfl
          have t123 := g118 0 73 rfl
          have t124 := g118 0 69 rfl
          have t125 := g118 0 42 rfl
          have t126 := g118 0 74 rfl
          have f127 := (show 0 ≤ I119 0 71 ∧ I119 0 71 ≤ 5 from (hI119 0 71).1)
          have f128 := (show 0 ≤ I119 0 72 ∧ I119 0 72 ≤ 1000 from (hI119 0 72).1)
          have f129 := (show 0 ≤ I119 0 73 ∧ I119 0 73 ≤ 1001 from (hI119 0 73).1)
          have f130 := (show 0 ≤ I119 0 69 ∧ I119 0 69 ≤ 1000 from (hI119 0 69).1)
          have f131 := (show 0 ≤ I119 0 59 ∧ I119 0 59 ≤ 2000 from (hI119 0 59).1)
          have f132 := (show 0 ≤ I119 0 42 ∧ I119 0 42 ≤ 2000 from (hI119 0 42).1)
          have f133 := (show 0 ≤ I119 0 74 ∧ I119 0 74 ≤ 999999 from (hI119 0 74).1)
          refine gv_callV hD rfl (As := []) (st := [.inl (I8 0 42), .inr (.inr (some 35))]) rfl (by decide) rfl rfl (gr_lV hws rfl) (Nat.le_of_ble_eq_true rfl) (gz_Ev_mono (d := 2) (by decide) E118) ?_
          show gv_X _ _ (81, [(0, .inr (.inr (some 0)))], [.inl z118, .inl (I8 0 42), .inr (.inr (some 35))], gr_sh ++ ext, gr_h I119 J120)
          refine gv_run 1 true hD (pc' := 82) (lv' := [(0, .inr (.inr (some 0)))]) (st' := []) (h' := gz_up (gr_h I119 J120) 35 (Int.toNat ((I8 0 42))) (.inl z118)) (C := (True ∧ (0 ≤ (I8 0 42) ∧ (I8 0 42) < ((42000 : Nat) : Int)))) rfl ⟨trivial, ⟨by omega, by omega⟩⟩ ?_
          refine gr_st hI119 FI119 rfl rfl ⟨⟨by show (-3) ≤ _; omega, by show _ ≤ 32015; omega⟩, trivial⟩ (fun I134 hI134 FI134 q135 p135 => ?_)
          have t136 := p135 0 71 (fun q => absurd q.1 (by decide))
          have t137 := p135 0 72 (fun q => absurd q.1 (by decide))
          have t138 := p135 0 73 (fun q => absurd q.1 (by decide))
          have t139 := p135 0 69 (fun q => absurd q.1 (by decide))
          have t140 := p135 0 59 (fun q => absurd q.1 (by decide))
          have t141 := p135 0 42 (fun q => absurd q.1 (by decide))
          have t142 := p135 0 74 (fun q => absurd q.1 (by decide))
          have f143 := (show 0 ≤ I134 0 71 ∧ I134 0 71 ≤ 5 from (hI134 0 71).1)
          have f144 := (show 0 ≤ I134 0 72 ∧ I134 0 72 ≤ 1000 from (hI134 0 72).1)
          have f145 := (show 0 ≤ I134 0 73 ∧ I134 0 73 ≤ 1001 from (hI134 0 73).1)
          have f146 := (show 0 ≤ I134 0 69 ∧ I134 0 69 ≤ 1000 from (hI134 0 69).1)
          have f147 := (show 0 ≤ I134 0 59 ∧ I134 0 59 ≤ 2000 from (hI134 0 59).1)
          have f148 := (show 0 ≤ I134 0 42 ∧ I134 0 42 ≤ 2000 from (hI134 0 42).1)
          have f149 := (show 0 ≤ I134 0 74 ∧ I134 0 74 ≤ 999999 from (hI134 0 74).1)
          refine gv_run 1 true hD (pc' := 91) (lv' := [(0, .inr (.inr (some 0)))]) (st' := []) (h' := gr_h I134 J120) (C := (True ∧ True)) rfl ⟨trivial, trivial⟩ ?_
          exact L91 I134 J120 hI134 FI134 FJ120 (by omega)
      · have f150 := (show 0 ≤ I8 0 74 ∧ I8 0 74 ≤ 999999 from (hI8 0 74).1)
        refine gv_run 3 true hD (pc' := 13) (lv' := [(0, .inr (.inr (some 0)))]) (st' := [.inl 1, .inl (I8 0 74)]) (h' := gr_h I8 J9) (C := (((True ∧ True) ∧ True) ∧ True)) rfl ⟨⟨⟨trivial, trivial⟩, trivial⟩, trivial⟩ ?_
        refine gv_icmp_lt (t := 24) hD rfl rfl ⟨⟨by omega, by omega⟩, ⟨by omega, by omega⟩⟩ (fun c151 => ?_) (fun c151 => ?_)
        · exact L24 (by omega)
        · have f152 := (show 0 ≤ I8 0 74 ∧ I8 0 74 ≤ 999999 from (hI8 0 74).1)
          refine gv_run 3 true hD (pc' := 21) (lv' := [(0, .inr (.inr (some 0)))]) (st' := [.inl 3, .inl (I8 0 74)]) (h' := gr_h I8 J9) (C := (((True ∧ True) ∧ True) ∧ True)) rfl ⟨⟨⟨trivial, trivial⟩, trivial⟩, trivial⟩ ?_
          refine gv_icmp_le (t := 30) hD rfl rfl ⟨⟨by omega, by omega⟩, ⟨by omega, by omega⟩⟩ (fun c153 => ?_) (fun c153 => ?_)
          · have f154 := (show 0 ≤ I8 0 42 ∧ I8 0 42 ≤ 2000 from (hI8 0 42).1)
            refine gv_run 7 true hD (pc' := 41) (lv' := [(0, .inr (.inr (some 0)))]) (st' := [.inl 1, .inl (I8 0 42), .inr (.inr (some 0)), .inl (I8 0 42), .inr (.inr (some 35))]) (h' := gr_h I8 J9) (C := (((((((True ∧ True) ∧ True) ∧ True) ∧ True) ∧ True) ∧ True) ∧ True)) rfl ⟨⟨⟨⟨⟨⟨⟨trivial, trivial⟩, trivial⟩, trivial⟩, trivial⟩, trivial⟩, trivial⟩, trivial⟩ ?_
            refine gv_run 2 true hD (pc' := 45) (lv' := [(0, .inr (.inr (some 0)))]) (st' := [.inl (I8 0 42), .inr (.inr (some 35))]) (h' := gz_up (gr_h I8 J9) 0 42 (.inl (((I8 0 42) + 1)))) (C := ((True ∧ True) ∧ True)) rfl ⟨⟨trivial, trivial⟩, trivial⟩ ?_
            refine gr_st hI8 FI8 rfl rfl ⟨⟨by show 0 ≤ _; omega, by show _ ≤ 2000; omega⟩, trivial⟩ (fun I155 hI155 FI155 q156 p156 => ?_)
            have t157 := p156 0 71 (by decide)
            have t158 := p156 0 72 (by decide)
            have t159 := p156 0 73 (by decide)
            have t160 := p156 0 69 (by decide)
            have t161 := p156 0 59 (by decide)
            have t162 := p156 0 74 (by decide)
            have f163 := (show 0 ≤ I155 0 71 ∧ I155 0 71 ≤ 5 from (hI155 0 71).1)
            have f164 := (show 0 ≤ I155 0 72 ∧ I155 0 72 ≤ 1000 from (hI155 0 72).1)
            have f165 := (show 0 ≤ I155 0 73 ∧ I155 0 73 ≤ 1001 from (hI155 0 73).1)
            have f166 := (show 0 ≤ I155 0 69 ∧ I155 0 69 ≤ 1000 from (hI155 0 69).1)
            have f167 := (show 0 ≤ I155 0 59 ∧ I155 0 59 ≤ 2000 from (hI155 0 59).1)
            have f168 := (show 0 ≤ I155 0 42 ∧ I155 0 42 ≤ 2000 from (hI155 0 42).1)
            have f169 := (show 0 ≤ I155 0 74 ∧ I155 0 74 ≤ 999999 from (hI155 0 74).1)
            have f170 := (show 0 ≤ I155 0 74 ∧ I155 0 74 ≤ 999999 from (hI155 0 74).1)
            have f171 := gw_neg (x := (I155 0 74)) ⟨by omega, by omega⟩
            refine gv_run 3 true hD (pc' := 50) (lv' := [(0, .inr (.inr (some 0)))]) (st' := [.inl ((-Int32.ofInt (I155 0 74)).toInt), .inl (I8 0 42), .inr (.inr (some 35))]) (h' := gr_h I155 J9) (C := (((True ∧ True) ∧ True) ∧ True)) rfl ⟨⟨⟨trivial, trivial⟩, trivial⟩, trivial⟩ ?_
            refine gv_run 1 true hD (pc' := 51) (lv' := [(0, .inr (.inr (some 0)))]) (st' := []) (h' := gz_up (gr_h I155 J9) 35 (Int.toNat ((I8 0 42))) (.inl (((-Int32.ofInt (I155 0 74)).toInt)))) (C := (True ∧ (0 ≤ (I8 0 42) ∧ (I8 0 42) < ((42000 : Nat) : Int)))) rfl ⟨trivial, ⟨by omega, by omega⟩⟩ ?_
            refine gr_st hI155 FI155 rfl rfl ⟨⟨by show (-3) ≤ _; omega, by show _ ≤ 32015; omega⟩, trivial⟩ (fun I172 hI172 FI172 q173 p173 => ?_)
            have t174 := p173 0 71 (fun q => absurd q.1 (by decide))
            have t175 := p173 0 72 (fun q => absurd q.1 (by decide))
            have t176 := p173 0 73 (fun q => absurd q.1 (by decide))
            have t177 := p173 0 69 (fun q => absurd q.1 (by decide))
            have t178 := p173 0 59 (fun q => absurd q.1 (by decide))
            have t179 := p173 0 42 (fun q => absurd q.1 (by decide))
            have t180 := p173 0 74 (fun q => absurd q.1 (by decide))
            have f181 := (show 0 ≤ I172 0 71 ∧ I172 0 71 ≤ 5 from (hI172 0 71).1)
            have f182 := (show 0 ≤ I172 0 72 ∧ I172 0 72 ≤ 1000 from (hI172 0 72).1)
            have f183 := (show 0 ≤ I172 0 73 ∧ I172 0 73 ≤ 1001 from (hI172 0 73).1)
            have f184 := (show 0 ≤ I172 0 69 ∧ I172 0 69 ≤ 1000 from (hI172 0 69).1)
            have f185 := (show 0 ≤ I172 0 59 ∧ I172 0 59 ≤ 2000 from (hI172 0 59).1)
            have f186 := (show 0 ≤ I172 0 42 ∧ I172 0 42 ≤ 2000 from (hI172 0 42).1)
            have f187 := (show 0 ≤ I172 0 74 ∧ I172 0 74 ≤ 999999 from (hI172 0 74).1)
            refine gv_run 1 true hD (pc' := 91) (lv' := [(0, .inr (.inr (some 0)))]) (st' := []) (h' := gr_h I172 J9) (C := (True ∧ True)) rfl ⟨trivial, trivial⟩ ?_
            exact L91 I172 J9 hI172 FI172 FJ9 (by omega)
          · exact L24 (by omega)
  exact L0 _ I J (Nat.lt_succ_self _) hI FI FJ (by omega)
