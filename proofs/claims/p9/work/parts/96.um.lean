set_option maxHeartbeats 8000000 in
set_option maxRecDepth 100000 in
theorem d_X9_isWord_p {ws0 : List Cond} {tb : String → gz_T} (hws : gc_Ws ws0) (htb : gc_tbs tb) (sh : gz_Sh) (ro : Nat → Nat) (I : gr_I) (J : gr_J) (A : gc_A) (hI : gc_Inv ro I) (p : Nat)  (hp : gc_isText sh ro A p)   : ∃ r hₚ, gz_Ev ws0 tb 2 (yX9_isWord, cX9_isWord, 2, (some .boolean)) [.inr (.inr (some p))] sh (gc_h sh I J A) r sh hₚ 0 0 ∧ (hₚ = gc_h sh I J A ∧ (∃ z : Int, r = some (.inl z) ∧ 0 ≤ z ∧ z ≤ 1 ∧ (z = 0 ∨ (1 ≤ I p 1 ∧ I p 1 ≤ 24)) ∧ ((z = 1 ∧ so_wd (I p 1) (I (p + 1))) ∨ (z = 0 ∧ ¬ so_wd (I p 1) (I (p + 1)))))) := by
  obtain ⟨S_p, R_p, B_p, A_p_0, S_p_1, R_p_1, B_p_1, A_p_2, S_p_2, R_p_2, B_p_2, A_p_3, S_p_3, R_p_3, B_p_3⟩ := id hp
  replace R_p := gz_hi R_p
  replace B_p := gz_hi B_p
  replace R_p_1 := gz_hi R_p_1
  replace B_p_1 := gz_hi B_p_1
  replace R_p_2 := gz_hi R_p_2
  replace B_p_2 := gz_hi B_p_2
  replace R_p_3 := gz_hi R_p_3
  replace B_p_3 := gz_hi B_p_3
  have hD : gv_D (gc_E9 ws0 tb 1 (yX9_isWord, cX9_isWord, 2, (some .boolean)) kX9_isWord) := gq_of oX9_isWord
  refine gc_ev9 (d := 1) (l := kX9_isWord) (Po := fun r hₚ => (hₚ = gc_h sh I J A ∧ (∃ z : Int, r = some (.inl z) ∧ 0 ≤ z ∧ z ≤ 1 ∧ (z = 0 ∨ (1 ≤ I p 1 ∧ I p 1 ≤ 24)) ∧ ((z = 1 ∧ so_wd (I p 1) (I (p + 1))) ∨ (z = 0 ∧ ¬ so_wd (I p 1) (I (p + 1))))))) htb rfl (Nat.le_of_ble_eq_true rfl) ?_
  have f1 := gz_hi ((show 0 ≤ I p 1 ∧ I p 1 ≤ 1000 from gc_in2 hI (gz_sh R_p) rfl rfl rfl))
  have L2 : ∀ (n9 : Nat) (v1_2 : Int), (1001 - v1_2).toNat < n9 → ((0 ≤ v1_2 ∧ v1_2 ≤ 1000)) → (∀ k : Nat, (k : Int) < v1_2 → 97 ≤ I (p + 1) k ∧ I (p + 1) k ≤ 122) → gv_X (gc_E9 ws0 tb 1 (yX9_isWord, cX9_isWord, 2, (some .boolean)) kX9_isWord) (gv_Q cX9_isWord (some .boolean) sh (fun r hₚ => (hₚ = gc_h sh I J A ∧ (∃ z : Int, r = some (.inl z) ∧ 0 ≤ z ∧ z ≤ 1 ∧ (z = 0 ∨ (1 ≤ I p 1 ∧ I p 1 ≤ 24)) ∧ ((z = 1 ∧ so_wd (I p 1) (I (p + 1))) ∨ (z = 0 ∧ ¬ so_wd (I p 1) (I (p + 1)))))))) (2, [(0, .inr (.inr (some p))), (1, .inl v1_2)], [], sh, gc_h sh I J A) := by
    intro n9
    induction n9 with
    | zero => intro v1_2 hn; (/-0-/first | omega | (simp only [gz_hd] at *; omega))
    | succ n9 ih2 =>
      intro v1_2 hn m_2 k_2
      have hv1_2 := m_2
      have L52 : ∀ (s0_4 : Int), ((0 ≤ s0_4 ∧ s0_4 ≤ 1) ∧ (s0_4 = 0 ∨ (1 ≤ I p 1 ∧ I p 1 ≤ 24))) → ((s0_4 = 1 ∧ so_wd (I p 1) (I (p + 1))) ∨ (s0_4 = 0 ∧ ¬ so_wd (I p 1) (I (p + 1)))) → gv_X (gc_E9 ws0 tb 1 (yX9_isWord, cX9_isWord, 2, (some .boolean)) kX9_isWord) (gv_Q cX9_isWord (some .boolean) sh (fun r hₚ => (hₚ = gc_h sh I J A ∧ (∃ z : Int, r = some (.inl z) ∧ 0 ≤ z ∧ z ≤ 1 ∧ (z = 0 ∨ (1 ≤ I p 1 ∧ I p 1 ≤ 24)) ∧ ((z = 1 ∧ so_wd (I p 1) (I (p + 1))) ∨ (z = 0 ∧ ¬ so_wd (I p 1) (I (p + 1)))))))) (52, [], [.inl s0_4], sh, gc_h sh I J A) := by
        intro s0_4 m_4 z_4
        obtain ⟨hs0_4, e0_4⟩ := gz_h2 m_4
        exact gv_zret hD rfl (by (/-1-/first | (have o1 := gz_sh hs0_4; omega) | (simp only [gz_hd] at *; omega))) ⟨rfl, ⟨_, rfl, by (/-2-/first | (have o1 := gz_sh hs0_4; omega) | (simp only [gz_hd] at *; omega)), by (/-3-/first | (have o1 := gz_sh hs0_4; omega) | (simp only [gz_hd] at *; omega)), by (/-4-/first | (have o1 := gz_sh e0_4; omega) | (simp only [gz_hd] at *; omega)), z_4⟩⟩
      have L51 : ¬ so_wd (I p 1) (I (p + 1)) → gv_X (gc_E9 ws0 tb 1 (yX9_isWord, cX9_isWord, 2, (some .boolean)) kX9_isWord) (gv_Q cX9_isWord (some .boolean) sh (fun r hₚ => (hₚ = gc_h sh I J A ∧ (∃ z : Int, r = some (.inl z) ∧ 0 ≤ z ∧ z ≤ 1 ∧ (z = 0 ∨ (1 ≤ I p 1 ∧ I p 1 ≤ 24)) ∧ ((z = 1 ∧ so_wd (I p 1) (I (p + 1))) ∨ (z = 0 ∧ ¬ so_wd (I p 1) (I (p + 1)))))))) (51, [], [], sh, gc_h sh I J A) := by
        intro n_51
        refine gv_run 1 true hD (pcₚ := 52) (lvₚ := []) (stₚ := [.inl 0]) (hₚ := gc_h sh I J A) (C := (True ∧ True)) rfl ⟨trivial, trivial⟩ ?_
        exact L52 0 (by (/-5-/first | (and_intros <;> omega) | (simp only [gz_hd] at *; omega))) (Or.inr ⟨rfl, n_51⟩)
      refine gv_run 2 true hD (pcₚ := 4) (lvₚ := [(0, .inr (.inr (some p))), (1, .inl v1_2)]) (stₚ := [.inr (.inr (some p)), .inl v1_2]) (hₚ := gc_h sh I J A) (C := ((True ∧ True) ∧ True)) rfl ⟨⟨trivial, trivial⟩, trivial⟩ ?_
      refine gv_get hD rfl rfl S_p ⟨by decide, (gz_sh B_p)⟩ (gc_hI S_p rfl) ?_
      show gv_X _ _ (7, [(0, .inr (.inr (some p))), (1, .inl v1_2)], [.inl (I p 1), .inl v1_2], sh, gc_h sh I J A)
      refine gv_icmp_ge (t := 30) hD rfl rfl ⟨⟨by (/-6-/first | omega | (simp only [gz_hd] at *; omega)), by (/-7-/first | omega | (simp only [gz_hd] at *; omega))⟩, ⟨by (/-8-/first | (have o1 := gz_sh f1; omega) | (simp only [gz_hd] at *; omega)), by (/-9-/first | (have o1 := gz_sh f1; omega) | (simp only [gz_hd] at *; omega))⟩⟩ (fun c9 => ?_) (fun c9 => ?_)
      · show gv_X _ _ (30, [(0, .inr (.inr (some p))), (1, .inl v1_2)], [], sh, gc_h sh I J A)
        refine gv_run 1 true hD (pcₚ := 31) (lvₚ := [(0, .inr (.inr (some p))), (1, .inl v1_2)]) (stₚ := [.inr (.inr (some p))]) (hₚ := gc_h sh I J A) (C := (True ∧ True)) rfl ⟨trivial, trivial⟩ ?_
        refine gv_get hD rfl rfl S_p ⟨by decide, (gz_sh B_p)⟩ (gc_hI S_p rfl) ?_
        show gv_X _ _ (34, [(0, .inr (.inr (some p))), (1, .inl v1_2)], [.inl (I p 1)], sh, gc_h sh I J A)
        refine gv_run 1 true hD (pcₚ := 35) (lvₚ := [(0, .inr (.inr (some p))), (1, .inl v1_2)]) (stₚ := [.inl 1, .inl (I p 1)]) (hₚ := gc_h sh I J A) (C := (True ∧ True)) rfl ⟨trivial, trivial⟩ ?_
        refine gv_icmp_lt (t := 51) hD rfl rfl ⟨⟨by (/-10-/first | (have o1 := gz_sh f1; omega) | (simp only [gz_hd] at *; omega)), by (/-11-/first | (have o1 := gz_sh f1; omega) | (simp only [gz_hd] at *; omega))⟩, ⟨by (/-12-/first | omega | (simp only [gz_hd] at *; omega)), by (/-13-/first | omega | (simp only [gz_hd] at *; omega))⟩⟩ (fun c11 => ?_) (fun c11 => ?_)
        · show gv_X _ _ (51, [(0, .inr (.inr (some p))), (1, .inl v1_2)], [], sh, gc_h sh I J A)
          refine gv_pick [] rfl ?_
          exact L51 (fun h => by have := h.1; (/-14-/first | (have o1 := gz_sh f1; omega) | (simp only [gz_hd] at *; omega)))
        · show gv_X _ _ (38, [(0, .inr (.inr (some p))), (1, .inl v1_2)], [], sh, gc_h sh I J A)
          refine gv_run 1 true hD (pcₚ := 39) (lvₚ := [(0, .inr (.inr (some p))), (1, .inl v1_2)]) (stₚ := [.inr (.inr (some p))]) (hₚ := gc_h sh I J A) (C := (True ∧ True)) rfl ⟨trivial, trivial⟩ ?_
          refine gv_get hD rfl rfl S_p ⟨by decide, (gz_sh B_p)⟩ (gc_hI S_p rfl) ?_
          show gv_X _ _ (42, [(0, .inr (.inr (some p))), (1, .inl v1_2)], [.inl (I p 1)], sh, gc_h sh I J A)
          refine gv_run 1 true hD (pcₚ := 44) (lvₚ := [(0, .inr (.inr (some p))), (1, .inl v1_2)]) (stₚ := [.inl 24, .inl (I p 1)]) (hₚ := gc_h sh I J A) (C := (True ∧ True)) rfl ⟨trivial, trivial⟩ ?_
          refine gv_icmp_gt (t := 51) hD rfl rfl ⟨⟨by (/-15-/first | omega | (simp only [gz_hd] at *; omega)), by (/-16-/first | (have o1 := gz_sh f1; omega) | (simp only [gz_hd] at *; omega))⟩, ⟨by (/-17-/first | omega | (simp only [gz_hd] at *; omega)), by (/-18-/first | omega | (simp only [gz_hd] at *; omega))⟩⟩ (fun c13 => ?_) (fun c13 => ?_)
          · show gv_X _ _ (51, [(0, .inr (.inr (some p))), (1, .inl v1_2)], [], sh, gc_h sh I J A)
            refine gv_pick [] rfl ?_
            exact L51 (fun h => by have := h.1; (/-19-/first | (have o1 := gz_sh f1; omega) | (simp only [gz_hd] at *; omega)))
          · show gv_X _ _ (47, [(0, .inr (.inr (some p))), (1, .inl v1_2)], [], sh, gc_h sh I J A)
            refine gv_run 2 true hD (pcₚ := 52) (lvₚ := [(0, .inr (.inr (some p))), (1, .inl v1_2)]) (stₚ := [.inl 1]) (hₚ := gc_h sh I J A) (C := ((True ∧ True) ∧ True)) rfl ⟨⟨trivial, trivial⟩, trivial⟩ ?_
            refine gv_pick [] rfl ?_
            exact L52 1 (by (/-20-/first | (and_intros <;> omega) | (simp only [gz_hd] at *; omega))) (Or.inl ⟨rfl, ⟨by (/-21-/first | omega | (simp only [gz_hd] at *; omega)), by (/-22-/first | omega | (simp only [gz_hd] at *; omega))⟩, fun k hk => k_2 k (by (/-23-/first | omega | (simp only [gz_hd] at *; omega)))⟩)
      · show gv_X _ _ (10, [(0, .inr (.inr (some p))), (1, .inl v1_2)], [], sh, gc_h sh I J A)
        refine gv_run 1 true hD (pcₚ := 11) (lvₚ := [(0, .inr (.inr (some p))), (1, .inl v1_2)]) (stₚ := [.inr (.inr (some p))]) (hₚ := gc_h sh I J A) (C := (True ∧ True)) rfl ⟨trivial, trivial⟩ ?_
        refine gv_get hD rfl rfl S_p ⟨by decide, (gz_sh B_p)⟩ (gc_hA S_p rfl A_p_0) ?_
        show gv_X _ _ (14, [(0, .inr (.inr (some p))), (1, .inl v1_2)], [.inr (.inr (some (p + 1)))], sh, gc_h sh I J A)
        refine gv_run 1 true hD (pcₚ := 15) (lvₚ := [(0, .inr (.inr (some p))), (1, .inl v1_2)]) (stₚ := [.inl v1_2, .inr (.inr (some (p + 1)))]) (hₚ := gc_h sh I J A) (C := (True ∧ True)) rfl ⟨trivial, trivial⟩ ?_
        have f14 := gz_hi ((show (-128) ≤ I (p + 1) (Int.toNat v1_2) ∧ I (p + 1) (Int.toNat v1_2) ≤ 127 from gc_in2 hI (gz_sh R_p_1) rfl rfl rfl))
        refine gv_bald hD rfl S_p_1 (Or.inl rfl) ⟨by decide, (gz_sh B_p_1)⟩ ⟨by (/-24-/first | omega | (simp only [gz_hd] at *; omega)), by (/-25-/first | (have o1 := gz_sh f1; omega) | (simp only [gz_hd] at *; omega))⟩ (gc_iI S_p_1 rfl) ?_
        show gv_X _ _ (16, [(0, .inr (.inr (some p))), (1, .inl v1_2)], [.inl (I (p + 1) (Int.toNat v1_2))], sh, gc_h sh I J A)
        obtain ⟨r15, h15, E15, P15⟩ := d_X9_isLetter_p (ws0 := ws0) (tb := tb) hws htb sh ro I J A hI  ((I (p + 1) (Int.toNat v1_2)))    ⟨by (/-26-/first | (have o1 := gz_sh f14; omega) | (simp only [gz_hd] at *; omega)), by (/-27-/first | (have o1 := gz_sh f14; omega) | (simp only [gz_hd] at *; omega))⟩  
        obtain ⟨rfl, ⟨z15, rfl, q15⟩⟩ := P15
        replace q15 := gz_hi q15
        refine gv_callS hD rfl (As := [.inl (I (p + 1) (Int.toNat v1_2))]) (st := []) rfl (gc_lS9 hws rfl) (Nat.le_of_ble_eq_true rfl) (gz_Ev_mono (d := 1) (by decide) E15) ?_
        show gv_X _ _ (19, [(0, .inr (.inr (some p))), (1, .inl v1_2)], [.inl z15], sh, gc_h sh I J A)
        refine gv_if_ne (t := 24) hD rfl rfl ⟨by (/-28-/first | (have o1 := gz_sh q15; omega) | (simp only [gz_hd] at *; omega)), by (/-29-/first | (have o1 := gz_sh q15; omega) | (simp only [gz_hd] at *; omega))⟩ (fun c16 => ?_) (fun c16 => ?_)
        · show gv_X _ _ (24, [(0, .inr (.inr (some p))), (1, .inl v1_2)], [], sh, gc_h sh I J A)
          refine gv_run 2 true hD (pcₚ := 2) (lvₚ := [(1, .inl (v1_2 + 1)), (0, .inr (.inr (some p)))]) (stₚ := []) (hₚ := gc_h sh I J A) (C := ((True ∧ True) ∧ True)) rfl ⟨⟨trivial, trivial⟩, trivial⟩ ?_
          refine gv_pick [1, 0] rfl ?_
          exact ih2 (v1_2 + 1) (by (/-30-/first | (have o1 := gz_sh f1; have o2 := gz_sh q15; omega) | (simp only [gz_hd] at *; omega))) (by (/-31-/first | (and_intros; (omega); (have o1 := gz_sh f1; omega)) | (simp only [gz_hd] at *; omega))) (fun k hk => if e9 : k = Int.toNat v1_2 then (by rw [e9]; (/-32-/first | (and_intros; (have o1 := gz_sh q15; omega); (have o1 := gz_sh q15; omega)) | (simp only [gz_hd] at *; omega))) else k_2 k (by (/-33-/first | omega | (simp only [gz_hd] at *; omega))))
        · show gv_X _ _ (22, [(0, .inr (.inr (some p))), (1, .inl v1_2)], [], sh, gc_h sh I J A)
          refine gv_run 1 true hD (pcₚ := 23) (lvₚ := [(0, .inr (.inr (some p))), (1, .inl v1_2)]) (stₚ := [.inl 0]) (hₚ := gc_h sh I J A) (C := (True ∧ True)) rfl ⟨trivial, trivial⟩ ?_
          exact gv_zret hD rfl (by (/-34-/first | omega | (simp only [gz_hd] at *; omega))) ⟨rfl, ⟨_, rfl, by (/-35-/first | omega | (simp only [gz_hd] at *; omega)), by (/-36-/first | omega | (simp only [gz_hd] at *; omega)), by (/-37-/first | omega | (simp only [gz_hd] at *; omega)), Or.inr ⟨rfl, fun h => by have h9 := h.2 (Int.toNat v1_2) (by (/-38-/first | omega | (simp only [gz_hd] at *; omega))); (/-39-/first | (have o1 := gz_sh f14; have o2 := gz_sh q15; omega) | (simp only [gz_hd] at *; omega))⟩⟩⟩
  refine gv_run 2 true hD (pcₚ := 2) (lvₚ := [(1, .inl 0), (0, .inr (.inr (some p)))]) (stₚ := []) (hₚ := gc_h sh I J A) (C := ((True ∧ True) ∧ True)) rfl ⟨⟨trivial, trivial⟩, trivial⟩ ?_
  refine gv_pick [1, 0] rfl ?_
  exact L2 _ 0 (Nat.lt_succ_self _) (by (/-40-/first | (and_intros <;> omega) | (simp only [gz_hd] at *; omega))) (fun k hk => absurd hk (by (/-41-/first | omega | (simp only [gz_hd] at *; omega))))
set_option maxHeartbeats 8000000 in
set_option maxRecDepth 100000 in
theorem r_oneWord_p {ws0 : List Cond} {tb : String → gz_T} (hws : ∀ w ∈ gr_ws, w ∈ ws0) (htb : tb RX13 = gr_T) (ext : gz_Sh) (I : gr_I) (J : gr_J) (hI : gr_Inv I)    : ∃ r hₚ, gz_Ev ws0 tb 2 (yX13_oneWord, cX13_oneWord, 2, (some .boolean)) [.inr (.inr (some 0))] (gr_sh ++ ext) (gr_h I J) r (gr_sh ++ ext) hₚ 0 0 ∧ (∃ (Iₚ : gr_I) (Jₚ : gr_J), hₚ = gr_h Iₚ Jₚ ∧ gr_Inv Iₚ ∧ gr_fr [68, 69, 126] [57, 76] I Iₚ ∧ gr_fj [68, 69, 126] [57, 76] J Jₚ ∧ (∃ z : Int, r = some (.inl z) ∧ 0 ≤ z ∧ z ≤ 1 ∧ (Iₚ 0 68 = 0) ∧ ((z = 1 ∧ so_wd (I 0 68) (I 56) ∧ Iₚ 0 126 = I 0 68 ∧ ∀ k : Nat, (k : Int) < I 0 68 → Iₚ 76 k = I 56 k) ∨ (z = 0 ∧ ¬ so_wd (I 0 68) (I 56))))) := by
  have FI : gr_fr [68, 69, 126] [57, 76] I I := fun _ _ _ => rfl
  have FJ : gr_fj [68, 69, 126] [57, 76] J J := fun _ _ _ => rfl
  have hD : gv_D (gr_E ws0 tb 1 (yX13_oneWord, cX13_oneWord, 2, (some .boolean)) kX13_oneWord) := gq_of oX13_oneWord
  refine gr_ev (d := 1) (l := kX13_oneWord) (Po := fun r hₚ => (∃ (Iₚ : gr_I) (Jₚ : gr_J), hₚ = gr_h Iₚ Jₚ ∧ gr_Inv Iₚ ∧ gr_fr [68, 69, 126] [57, 76] I Iₚ ∧ gr_fj [68, 69, 126] [57, 76] J Jₚ ∧ (∃ z : Int, r = some (.inl z) ∧ 0 ≤ z ∧ z ≤ 1 ∧ (Iₚ 0 68 = 0) ∧ ((z = 1 ∧ so_wd (I 0 68) (I 56) ∧ Iₚ 0 126 = I 0 68 ∧ ∀ k : Nat, (k : Int) < I 0 68 → Iₚ 76 k = I 56 k) ∨ (z = 0 ∧ ¬ so_wd (I 0 68) (I 56)))))) htb rfl (Nat.le_of_ble_eq_true rfl) ?_
  have f2 := gz_hi ((gr_b_0_68 hI))
  have L26 : ∀ (I3 : gr_I) (J4 : gr_J) , gr_Inv I3 → gr_fr [68, 69, 126] [57, 76] I I3 → gr_fj [68, 69, 126] [57, 76] J J4 → ((I3 0 68 = 0)) → ¬ so_wd (I 0 68) (I 56) → gv_X (gr_E ws0 tb 1 (yX13_oneWord, cX13_oneWord, 2, (some .boolean)) kX13_oneWord) (gv_Q cX13_oneWord (some .boolean) (gr_sh ++ ext) (fun r hₚ => (∃ (Iₚ : gr_I) (Jₚ : gr_J), hₚ = gr_h Iₚ Jₚ ∧ gr_Inv Iₚ ∧ gr_fr [68, 69, 126] [57, 76] I Iₚ ∧ gr_fj [68, 69, 126] [57, 76] J Jₚ ∧ (∃ z : Int, r = some (.inl z) ∧ 0 ≤ z ∧ z ≤ 1 ∧ (Iₚ 0 68 = 0) ∧ ((z = 1 ∧ so_wd (I 0 68) (I 56) ∧ Iₚ 0 126 = I 0 68 ∧ ∀ k : Nat, (k : Int) < I 0 68 → Iₚ 76 k = I 56 k) ∨ (z = 0 ∧ ¬ so_wd (I 0 68) (I 56))))))) (26, [], [], gr_sh ++ ext, gr_h I3 J4) := by
    intro I3 J4 hI3 FI3 FJ4 m_5 n_5
    have e0_5 := m_5
    refine gv_run 1 true hD (pcₚ := 27) (lvₚ := []) (stₚ := [.inl 0]) (hₚ := gr_h I3 J4) (C := (True ∧ True)) rfl ⟨trivial, trivial⟩ ?_
    exact gv_zret hD rfl (by (/-0-/first | omega | (simp only [gz_hd] at *; omega))) ⟨I3, J4, rfl, hI3, FI3, FJ4, ⟨_, rfl, by (/-1-/first | omega | (simp only [gz_hd] at *; omega)), by (/-2-/first | omega | (simp only [gz_hd] at *; omega)), by (/-3-/first | omega | (simp only [gz_hd] at *; omega)), Or.inr ⟨rfl, n_5⟩⟩⟩
  have L30 : ∀ (n : Nat) (I8 : gr_I) (J9 : gr_J) (v1_10 : Int), (25 - v1_10).toNat < n → gr_Inv I8 → gr_fr [68, 69, 126] [57, 76] I I8 → gr_fj [68, 69, 126] [57, 76] J J9 → ((0 ≤ v1_10 ∧ v1_10 ≤ 24) ∧ (I8 0 69 ≤ 24) ∧ (I8 0 68 = 0)) → (I8 0 69 = I 0 68 ∧ 1 ≤ I8 0 69 ∧ (∀ k : Nat, (k : Int) < I 0 68 → I8 57 k = I 56 k) ∧ ∀ k : Nat, (k : Int) < v1_10 → I8 76 k = I 56 k ∧ (97 ≤ I 56 k ∧ I 56 k ≤ 122)) → gv_X (gr_E ws0 tb 1 (yX13_oneWord, cX13_oneWord, 2, (some .boolean)) kX13_oneWord) (gv_Q cX13_oneWord (some .boolean) (gr_sh ++ ext) (fun r hₚ => (∃ (Iₚ : gr_I) (Jₚ : gr_J), hₚ = gr_h Iₚ Jₚ ∧ gr_Inv Iₚ ∧ gr_fr [68, 69, 126] [57, 76] I Iₚ ∧ gr_fj [68, 69, 126] [57, 76] J Jₚ ∧ (∃ z : Int, r = some (.inl z) ∧ 0 ≤ z ∧ z ≤ 1 ∧ (Iₚ 0 68 = 0) ∧ ((z = 1 ∧ so_wd (I 0 68) (I 56) ∧ Iₚ 0 126 = I 0 68 ∧ ∀ k : Nat, (k : Int) < I 0 68 → Iₚ 76 k = I 56 k) ∨ (z = 0 ∧ ¬ so_wd (I 0 68) (I 56))))))) (30, [(0, .inr (.inr (some 0))), (1, .inl v1_10)], [], gr_sh ++ ext, gr_h I8 J9) := by
    intro n
    induction n with
    | zero => intro I8 J9 v1_10 hn; (/-4-/first | omega | (simp only [gz_hd] at *; omega))
    | succ n ih30 =>
      intro I8 J9 v1_10 hn hI8 FI8 FJ9 m_10 k_9
      obtain ⟨hv1_10, e0_10, e1_10⟩ := gz_h3 m_10
      refine gv_run 3 true hD (pcₚ := 35) (lvₚ := [(0, .inr (.inr (some 0))), (1, .inl v1_10)]) (stₚ := [.inl (I8 0 69), .inl v1_10]) (hₚ := gr_h I8 J9) (C := (((True ∧ True) ∧ True) ∧ True)) rfl ⟨⟨⟨trivial, trivial⟩, trivial⟩, trivial⟩ ?_
      refine gv_icmp_ge (t := 66) hD rfl rfl ⟨⟨by (/-5-/first | (have o1 := gz_sh hv1_10; omega) | (simp only [gz_hd] at *; omega)), by (/-6-/first | (have o1 := gz_sh hv1_10; omega) | (simp only [gz_hd] at *; omega))⟩, ⟨by (/-7-/first | omega | (simp only [gz_hd] at *; omega)), by (/-8-/first | (have o1 := gz_sh e0_10; omega) | (simp only [gz_hd] at *; omega))⟩⟩ (fun c14 => ?_) (fun c14 => ?_)
      · have f15 := gz_hi ((gr_b_0_69 hI8))
        refine gv_run 3 true hD (pcₚ := 71) (lvₚ := [(0, .inr (.inr (some 0))), (1, .inl v1_10)]) (stₚ := [.inl (I8 0 69), .inr (.inr (some 0))]) (hₚ := gr_h I8 J9) (C := (((True ∧ True) ∧ True) ∧ True)) rfl ⟨⟨⟨trivial, trivial⟩, trivial⟩, trivial⟩ ?_
        refine gv_run 1 true hD (pcₚ := 74) (lvₚ := [(0, .inr (.inr (some 0))), (1, .inl v1_10)]) (stₚ := []) (hₚ := gz_up (gr_h I8 J9) 0 126 (.inl (I8 0 69))) (C := (True ∧ True)) rfl ⟨trivial, trivial⟩ ?_
        refine gr_st hI8 FI8 rfl rfl ⟨⟨by show 0 ≤ _; (/-9-/first | omega | (simp only [gz_hd] at *; omega)), by show _ ≤ 24; (/-10-/first | (have o1 := gz_sh e0_10; omega) | (simp only [gz_hd] at *; omega))⟩, trivial⟩ (fun I16 hI16 FI16 q17 p17 => ?_)
        have t18 := gz_hi (p17 0 69 (by decide))
        have t19 := gz_hi (p17 0 68 (by decide))
        refine gv_run 1 true hD (pcₚ := 75) (lvₚ := [(0, .inr (.inr (some 0))), (1, .inl v1_10)]) (stₚ := [.inl 1]) (hₚ := gr_h I16 J9) (C := (True ∧ True)) rfl ⟨trivial, trivial⟩ ?_
        exact gv_zret hD rfl (by (/-11-/first | omega | (simp only [gz_hd] at *; omega))) ⟨I16, J9, rfl, hI16, FI16, FJ9, ⟨_, rfl, by (/-12-/first | omega | (simp only [gz_hd] at *; omega)), by (/-13-/first | omega | (simp only [gz_hd] at *; omega)), by (/-14-/first | (have o1 := gz_sh e1_10; have o2 := gz_sh t19; omega) | (simp only [gz_hd] at *; omega)), Or.inl ⟨rfl, ⟨by have h9 := k_9.1; have h8 := k_9.2.1; (/-15-/first | (and_intros; (omega); (have o1 := gz_sh e0_10; omega)) | (simp only [gz_hd] at *; omega)), fun k hk => (k_9.2.2.2 k (by have h9 := k_9.1; (/-16-/first | omega | (simp only [gz_hd] at *; omega)))).2⟩, q17.trans k_9.1, fun k hk => (p17 76 k (fun q => absurd q.1 (by first | exact gz_ne rfl | decide))).trans (k_9.2.2.2 k (by have h9 := k_9.1; (/-17-/first | omega | (simp only [gz_hd] at *; omega)))).1⟩⟩⟩
      · refine gv_run 2 true hD (pcₚ := 40) (lvₚ := [(0, .inr (.inr (some 0))), (1, .inl v1_10)]) (stₚ := [.inl v1_10, .inr (.inr (some 0))]) (hₚ := gr_h I8 J9) (C := ((True ∧ True) ∧ True)) rfl ⟨⟨trivial, trivial⟩, trivial⟩ ?_
        obtain ⟨r22, h22, E22, P22⟩ := r_low (ws0 := ws0) (tb := tb) hws htb ext I8 J9 hI8 v1_10 ⟨by (/-18-/first | (have o1 := gz_sh hv1_10; omega) | (simp only [gz_hd] at *; omega)), by (/-19-/first | (have o1 := gz_sh hv1_10; omega) | (simp only [gz_hd] at *; omega))⟩ 
        obtain ⟨rfl, ⟨z22, rfl, q22⟩⟩ := P22
        replace q22 := gz_hi q22
        refine gv_callV hD rfl (As := [.inl v1_10]) (st := []) rfl (by decide) rfl rfl (gr_lV hws rfl) (Nat.le_of_ble_eq_true rfl) (gz_Ev_mono (d := 1) (by decide) E22) ?_
        show gv_X _ _ (43, [(0, .inr (.inr (some 0))), (1, .inl v1_10)], [.inl z22], gr_sh ++ ext, gr_h I8 J9)
        refine gv_if_ne (t := 48) hD rfl rfl ⟨by (/-20-/first | (have o1 := gz_sh q22; omega) | (simp only [gz_hd] at *; omega)), by (/-21-/first | (have o1 := gz_sh q22; omega) | (simp only [gz_hd] at *; omega))⟩ (fun c23 => ?_) (fun c23 => ?_)
        · have f24 := gz_hi ((gr_b_57 hI8 (Int.toNat v1_10)))
          refine gv_run 7 true hD (pcₚ := 59) (lvₚ := [(0, .inr (.inr (some 0))), (1, .inl v1_10)]) (stₚ := [.inl (I8 57 (Int.toNat v1_10)), .inl v1_10, .inr (.inr (some 76))]) (hₚ := gr_h I8 J9) (C := (((((((True ∧ True) ∧ True) ∧ True) ∧ True) ∧ True) ∧ True) ∧ (0 ≤ v1_10 ∧ v1_10 < ((1000 : Nat) : Int)))) rfl ⟨⟨⟨⟨⟨⟨⟨trivial, trivial⟩, trivial⟩, trivial⟩, trivial⟩, trivial⟩, trivial⟩, ⟨by (/-22-/first | (have o1 := gz_sh hv1_10; omega) | (simp only [gz_hd] at *; omega)), by (/-23-/first | (have o1 := gz_sh hv1_10; omega) | (simp only [gz_hd] at *; omega))⟩⟩ ?_
          have f25 := gz_hi (gw_nar_byte (x := ((I8 57 (Int.toNat v1_10)))))
          refine gv_run 1 true hD (pcₚ := 60) (lvₚ := [(0, .inr (.inr (some 0))), (1, .inl v1_10)]) (stₚ := []) (hₚ := gz_up (gr_h I8 J9) 76 (Int.toNat v1_10) (.inl (((vp_nar .byte (Int32.ofInt ((I8 57 (Int.toNat v1_10))))).toInt)))) (C := (True ∧ (0 ≤ v1_10 ∧ v1_10 < ((64 : Nat) : Int)))) rfl ⟨trivial, ⟨by (/-24-/first | (have o1 := gz_sh hv1_10; omega) | (simp only [gz_hd] at *; omega)), by (/-25-/first | (have o1 := gz_sh hv1_10; omega) | (simp only [gz_hd] at *; omega))⟩⟩ ?_
          refine gr_st hI8 FI8 rfl rfl ⟨⟨by show (-128) ≤ _; (/-26-/first | (have o1 := gz_sh f25; omega) | (simp only [gz_hd] at *; omega)), by show _ ≤ 127; (/-27-/first | (have o1 := gz_sh f25; omega) | (simp only [gz_hd] at *; omega))⟩, trivial⟩ (fun I26 hI26 FI26 q27 p27 => ?_)
          have t28 := gz_hi (p27 0 69 (fun q => absurd q.1 (by first | exact gz_ne rfl | decide)))
          have t29 := gz_hi (p27 0 68 (fun q => absurd q.1 (by first | exact gz_ne rfl | decide)))
          refine gv_run 2 true hD (pcₚ := 30) (lvₚ := [(1, .inl (v1_10 + 1)), (0, .inr (.inr (some 0)))]) (stₚ := []) (hₚ := gr_h I26 J9) (C := ((True ∧ True) ∧ True)) rfl ⟨⟨trivial, trivial⟩, trivial⟩ ?_
          refine gv_pick [1, 0] rfl ?_
          exact ih30 I26 J9 (v1_10 + 1) (by (/-28-/first | (have o1 := gz_sh e0_10; have o2 := gz_sh f2; have o3 := gz_sh hv1_10; have o4 := gz_sh q22; have o5 := gz_sh t28; omega) | (simp only [gz_hd] at *; omega))) hI26 FI26 FJ9 (by (/-29-/first | (and_intros; (have o1 := gz_sh hv1_10; omega); (have o1 := gz_sh e0_10; omega); (have o1 := gz_sh e0_10; have o2 := gz_sh t28; omega); (have o1 := gz_sh e1_10; have o2 := gz_sh t29; omega)) | (simp only [gz_hd] at *; omega))) ⟨(p27 0 69 (fun q => absurd q.1 (by first | exact gz_ne rfl | decide))).trans k_9.1, by rw [p27 0 69 (fun q => absurd q.1 (by first | exact gz_ne rfl | decide))]; exact k_9.2.1, fun k hk => (p27 57 k (fun q => absurd q.1 (by first | exact gz_ne rfl | decide))).trans (k_9.2.2.1 k hk), fun k hk => if e9 : k = Int.toNat v1_10 then (by have h9 := k_9.2.2.1 (Int.toNat v1_10) (by have h8 := k_9.1; (/-30-/first | omega | (simp only [gz_hd] at *; omega))); rw [e9, ← h9]; exact ⟨q27.trans (gc_nar ⟨by (/-31-/first | (have o1 := gz_sh f24; omega) | (simp only [gz_hd] at *; omega)), by (/-32-/first | (have o1 := gz_sh f24; omega) | (simp only [gz_hd] at *; omega))⟩), ((gz_sh q22).2.2.resolve_right (fun g => by have := g.1; (/-33-/first | (have o1 := gz_sh t28; omega) | (simp only [gz_hd] at *; omega)))).2.2⟩) else (by rw [p27 76 k (fun q => e9 q.2)]; exact k_9.2.2.2 k (by (/-34-/first | omega | (simp only [gz_hd] at *; omega))))⟩
        · refine gv_run 1 true hD (pcₚ := 47) (lvₚ := [(0, .inr (.inr (some 0))), (1, .inl v1_10)]) (stₚ := [.inl 0]) (hₚ := gr_h I8 J9) (C := (True ∧ True)) rfl ⟨trivial, trivial⟩ ?_
          exact gv_zret hD rfl (by (/-35-/first | omega | (simp only [gz_hd] at *; omega))) ⟨I8, J9, rfl, hI8, FI8, FJ9, ⟨_, rfl, by (/-36-/first | omega | (simp only [gz_hd] at *; omega)), by (/-37-/first | omega | (simp only [gz_hd] at *; omega)), by (/-38-/first | (have o1 := gz_sh e1_10; omega) | (simp only [gz_hd] at *; omega)), Or.inr ⟨rfl, fun h => by have h9 := k_9.2.2.1 (Int.toNat v1_10) (by have h8 := k_9.1; (/-39-/first | omega | (simp only [gz_hd] at *; omega))); have h7 := h.2 (Int.toNat v1_10) (by have h8 := k_9.1; (/-40-/first | omega | (simp only [gz_hd] at *; omega))); rw [← h9] at h7; (/-41-/first | (have o1 := gz_sh q22; omega) | (simp only [gz_hd] at *; omega))⟩⟩⟩
  refine gv_run 1 true hD (pcₚ := 1) (lvₚ := [(0, .inr (.inr (some 0)))]) (stₚ := [.inr (.inr (some 0))]) (hₚ := gr_h I J) (C := (True ∧ True)) rfl ⟨trivial, trivial⟩ ?_
  obtain ⟨r32, h32, E32, P32⟩ := r_reads_p (ws0 := ws0) (tb := tb) hws htb ext I J hI   
  obtain ⟨I33, J34, rfl, hI33, g32, k32, ⟨rfl, q32⟩⟩ := P32
  replace q32 := gz_hi q32
  have FI33 := gr_frt FI g32 rfl rfl
  have FJ34 := gr_fjt FJ k32 rfl rfl
  refine gv_callV hD rfl (As := []) (st := []) rfl (by decide) rfl rfl (gr_lV hws rfl) (Nat.le_of_ble_eq_true rfl) (gz_Ev_mono (d := 1) (by decide) E32) ?_
  show gv_X _ _ (4, [(0, .inr (.inr (some 0)))], [], gr_sh ++ ext, gr_h I33 J34)
  refine gv_run 3 true hD (pcₚ := 9) (lvₚ := [(0, .inr (.inr (some 0)))]) (stₚ := []) (hₚ := gz_up (gr_h I33 J34) 0 126 (.inl 0)) (C := (((True ∧ True) ∧ True) ∧ True)) rfl ⟨⟨⟨trivial, trivial⟩, trivial⟩, trivial⟩ ?_
  refine gr_st hI33 FI33 rfl rfl ⟨⟨by show 0 ≤ _; (/-42-/first | omega | (simp only [gz_hd] at *; omega)), by show _ ≤ 24; (/-43-/first | omega | (simp only [gz_hd] at *; omega))⟩, trivial⟩ (fun I37 hI37 FI37 q38 p38 => ?_)
  have t39 := gz_hi (p38 0 69 (by decide))
  have t40 := gz_hi (p38 0 68 (by decide))
  refine gv_run 3 true hD (pcₚ := 14) (lvₚ := [(0, .inr (.inr (some 0)))]) (stₚ := [.inl 1, .inl (I37 0 69)]) (hₚ := gr_h I37 J34) (C := (((True ∧ True) ∧ True) ∧ True)) rfl ⟨⟨⟨trivial, trivial⟩, trivial⟩, trivial⟩ ?_
  refine gv_icmp_lt (t := 26) hD rfl rfl ⟨⟨by (/-44-/first | (have o1 := gz_sh f2; have o2 := gz_sh q32; have o3 := gz_sh t39; omega) | (simp only [gz_hd] at *; omega)), by (/-45-/first | (have o1 := gz_sh f2; have o2 := gz_sh q32; have o3 := gz_sh t39; omega) | (simp only [gz_hd] at *; omega))⟩, ⟨by (/-46-/first | omega | (simp only [gz_hd] at *; omega)), by (/-47-/first | omega | (simp only [gz_hd] at *; omega))⟩⟩ (fun c44 => ?_) (fun c44 => ?_)
  · refine gv_pick [] rfl ?_
    exact L26 I37 J34 hI37 FI37 FJ34 (by (/-48-/first | (have o1 := gz_sh q32; have o2 := gz_sh t40; omega) | (simp only [gz_hd] at *; omega))) (fun h => by have h9 := h.1; (/-49-/first | (have o1 := gz_sh f2; have o2 := gz_sh q32; have o3 := gz_sh t39; omega) | (simp only [gz_hd] at *; omega)))
  · have f45 := gz_hi ((gr_b_0_69 hI37))
    refine gv_run 3 true hD (pcₚ := 23) (lvₚ := [(0, .inr (.inr (some 0)))]) (stₚ := [.inl 24, .inl (I37 0 69)]) (hₚ := gr_h I37 J34) (C := (((True ∧ True) ∧ True) ∧ True)) rfl ⟨⟨⟨trivial, trivial⟩, trivial⟩, trivial⟩ ?_
    refine gv_icmp_le (t := 28) hD rfl rfl ⟨⟨by (/-50-/first | omega | (simp only [gz_hd] at *; omega)), by (/-51-/first | (have o1 := gz_sh f2; have o2 := gz_sh q32; have o3 := gz_sh t39; omega) | (simp only [gz_hd] at *; omega))⟩, ⟨by (/-52-/first | omega | (simp only [gz_hd] at *; omega)), by (/-53-/first | omega | (simp only [gz_hd] at *; omega))⟩⟩ (fun c46 => ?_) (fun c46 => ?_)
    · refine gv_run 2 true hD (pcₚ := 30) (lvₚ := [(1, .inl 0), (0, .inr (.inr (some 0)))]) (stₚ := []) (hₚ := gr_h I37 J34) (C := ((True ∧ True) ∧ True)) rfl ⟨⟨trivial, trivial⟩, trivial⟩ ?_
      refine gv_pick [1, 0] rfl ?_
      exact L30 _ I37 J34 0 (Nat.lt_succ_self _) hI37 FI37 FJ34 (by (/-54-/first | (and_intros; (omega); (omega); (omega); (have o1 := gz_sh q32; have o2 := gz_sh t40; omega)) | (simp only [gz_hd] at *; omega))) ⟨by (/-55-/first | (have o1 := gz_sh q32; have o2 := gz_sh t39; omega) | (simp only [gz_hd] at *; omega)), by (/-56-/first | omega | (simp only [gz_hd] at *; omega)), fun k hk => (p38 57 k (fun q => absurd q.1 (by first | exact gz_ne rfl | decide))).trans ((gz_sh q32).1.2 k hk), fun k hk => absurd hk (by (/-57-/first | omega | (simp only [gz_hd] at *; omega)))⟩
    · refine gv_pick [] rfl ?_
      exact L26 I37 J34 hI37 FI37 FJ34 (by (/-58-/first | (have o1 := gz_sh q32; have o2 := gz_sh t40; omega) | (simp only [gz_hd] at *; omega))) (fun h => by have h9 := h.1; (/-59-/first | (have o1 := gz_sh f2; have o2 := gz_sh q32; have o3 := gz_sh t39; omega) | (simp only [gz_hd] at *; omega)))
set_option maxHeartbeats 8000000 in
set_option maxRecDepth 100000 in
theorem r_noTongue_z {ws0 : List Cond} {tb : String → gz_T} (hws : ∀ w ∈ gr_ws, w ∈ ws0) (htb : tb RX13 = gr_T) (ext : gz_Sh) (I : gr_I) (J : gr_J) (hI : gr_Inv I) (a1 : Int) (ha1 : (-2147483648) ≤ a1 ∧ a1 ≤ 2147483647)  : ∃ r hₚ, gz_Ev ws0 tb 1 (yX13_noTongue, cX13_noTongue, 2, (some .boolean)) [.inr (.inr (some 0)), .inl a1] (gr_sh ++ ext) (gr_h I J) r (gr_sh ++ ext) hₚ 0 0 ∧ (∃ (Iₚ : gr_I) (Jₚ : gr_J), hₚ = gr_h Iₚ Jₚ ∧ gr_Inv Iₚ ∧ gr_fr [0] [] I Iₚ ∧ gr_fj [0] [] J Jₚ ∧ (∃ z : Int, r = some (.inl z) ∧ 0 ≤ z ∧ z ≤ 1 ∧ (z = 0 → 0 ≤ a1 ∧ a1 < I 0 1 ∧ a1 ≤ 7) ∧ ((z = 0 ∧ (0 ≤ a1 ∧ a1 < I 0 1)) ∨ (z = 1 ∧ ¬ (0 ≤ a1 ∧ a1 < I 0 1))) ∧ (z = Iₚ 0 0))) := by
  have FI : gr_fr [0] [] I I := fun _ _ _ => rfl
  have FJ : gr_fj [0] [] J J := fun _ _ _ => rfl
  have hD : gv_D (gr_E ws0 tb 0 (yX13_noTongue, cX13_noTongue, 2, (some .boolean)) kX13_noTongue) := gq_of oX13_noTongue
  refine gr_ev (d := 0) (l := kX13_noTongue) (Po := fun r hₚ => (∃ (Iₚ : gr_I) (Jₚ : gr_J), hₚ = gr_h Iₚ Jₚ ∧ gr_Inv Iₚ ∧ gr_fr [0] [] I Iₚ ∧ gr_fj [0] [] J Jₚ ∧ (∃ z : Int, r = some (.inl z) ∧ 0 ≤ z ∧ z ≤ 1 ∧ (z = 0 → 0 ≤ a1 ∧ a1 < I 0 1 ∧ a1 ≤ 7) ∧ ((z = 0 ∧ (0 ≤ a1 ∧ a1 < I 0 1)) ∨ (z = 1 ∧ ¬ (0 ≤ a1 ∧ a1 < I 0 1))) ∧ (z = Iₚ 0 0)))) htb rfl (Nat.le_of_ble_eq_true rfl) ?_
  have f1 := gz_hi ((gr_b_0_1 hI))
  have L18 : ∀ (s1_3 : Int), ((0 ≤ s1_3 ∧ s1_3 ≤ 1) ∧ (s1_3 = 0 → 0 ≤ a1 ∧ a1 < I 0 1 ∧ a1 ≤ 7) ∧ ((s1_3 = 0 ∧ (0 ≤ a1 ∧ a1 < I 0 1)) ∨ (s1_3 = 1 ∧ ¬ (0 ≤ a1 ∧ a1 < I 0 1)))) → gv_X (gr_E ws0 tb 0 (yX13_noTongue, cX13_noTongue, 2, (some .boolean)) kX13_noTongue) (gv_Q cX13_noTongue (some .boolean) (gr_sh ++ ext) (fun r hₚ => (∃ (Iₚ : gr_I) (Jₚ : gr_J), hₚ = gr_h Iₚ Jₚ ∧ gr_Inv Iₚ ∧ gr_fr [0] [] I Iₚ ∧ gr_fj [0] [] J Jₚ ∧ (∃ z : Int, r = some (.inl z) ∧ 0 ≤ z ∧ z ≤ 1 ∧ (z = 0 → 0 ≤ a1 ∧ a1 < I 0 1 ∧ a1 ≤ 7) ∧ ((z = 0 ∧ (0 ≤ a1 ∧ a1 < I 0 1)) ∨ (z = 1 ∧ ¬ (0 ≤ a1 ∧ a1 < I 0 1))) ∧ (z = Iₚ 0 0))))) (18, [(0, .inr (.inr (some 0)))], [.inl s1_3, .inr (.inr (some 0))], gr_sh ++ ext, gr_h I J) := by
    intro s1_3 m_3
    obtain ⟨hs1_3, e0_3, e1_3⟩ := gz_h3 m_3
    have L33 : ∀ (I6 : gr_I) (J7 : gr_J) (s0_8 : Int), gr_Inv I6 → gr_fr [0] [] I I6 → gr_fj [0] [] J J7 → ((0 ≤ s0_8 ∧ s0_8 ≤ 1) ∧ (s0_8 = 0 → 0 ≤ a1 ∧ a1 < I 0 1 ∧ a1 ≤ 7) ∧ ((s0_8 = 0 ∧ (0 ≤ a1 ∧ a1 < I 0 1)) ∨ (s0_8 = 1 ∧ ¬ (0 ≤ a1 ∧ a1 < I 0 1))) ∧ (s0_8 = I6 0 0)) → gv_X (gr_E ws0 tb 0 (yX13_noTongue, cX13_noTongue, 2, (some .boolean)) kX13_noTongue) (gv_Q cX13_noTongue (some .boolean) (gr_sh ++ ext) (fun r hₚ => (∃ (Iₚ : gr_I) (Jₚ : gr_J), hₚ = gr_h Iₚ Jₚ ∧ gr_Inv Iₚ ∧ gr_fr [0] [] I Iₚ ∧ gr_fj [0] [] J Jₚ ∧ (∃ z : Int, r = some (.inl z) ∧ 0 ≤ z ∧ z ≤ 1 ∧ (z = 0 → 0 ≤ a1 ∧ a1 < I 0 1 ∧ a1 ≤ 7) ∧ ((z = 0 ∧ (0 ≤ a1 ∧ a1 < I 0 1)) ∨ (z = 1 ∧ ¬ (0 ≤ a1 ∧ a1 < I 0 1))) ∧ (z = Iₚ 0 0))))) (33, [], [.inl s0_8], gr_sh ++ ext, gr_h I6 J7) := by
      intro I6 J7 s0_8 hI6 FI6 FJ7 m_8
      clear hs1_3 e0_3 e1_3
      obtain ⟨hs0_8, e0_8, e1_8, e2_8⟩ := gz_h4 m_8
      exact gv_zret hD rfl (by (/-0-/first | (have o1 := gz_sh hs0_8; omega) | (simp only [gz_hd] at *; omega))) ⟨I6, J7, rfl, hI6, FI6, FJ7, ⟨_, rfl, by (/-1-/first | (and_intros; (have o1 := gz_sh hs0_8; omega); (have o1 := gz_sh hs0_8; omega); (have o1 := gz_sh e1_8; have o2 := gz_sh f1; omega); (have o1 := gz_sh e1_8; have o2 := gz_sh e2_8; have o3 := gz_sh f1; have o4 := gz_sh hs0_8; omega); (have o1 := gz_sh e2_8; omega)) | (simp only [gz_hd] at *; omega))⟩⟩
    refine gv_run 1 true hD (pcₚ := 21) (lvₚ := [(0, .inr (.inr (some 0)))]) (stₚ := []) (hₚ := gz_up (gr_h I J) 0 0 (.inl s1_3)) (C := (True ∧ True)) rfl ⟨trivial, trivial⟩ ?_
    refine gr_st hI FI rfl rfl ⟨⟨by show 0 ≤ _; (/-2-/first | (have o1 := gz_sh hs1_3; omega) | (simp only [gz_hd] at *; omega)), by show _ ≤ 2; (/-3-/first | (have o1 := gz_sh hs1_3; omega) | (simp only [gz_hd] at *; omega))⟩, trivial⟩ (fun I11 hI11 FI11 q12 p12 => ?_)
    have t13 := gz_hi (p12 0 1 (by decide))
    refine gv_run 2 true hD (pcₚ := 25) (lvₚ := [(0, .inr (.inr (some 0)))]) (stₚ := [.inl (I11 0 0)]) (hₚ := gr_h I11 J) (C := ((True ∧ True) ∧ True)) rfl ⟨⟨trivial, trivial⟩, trivial⟩ ?_
    refine gv_if_eq (t := 32) hD rfl rfl ⟨by (/-4-/first | (have o1 := gz_sh hs1_3; omega) | (simp only [gz_hd] at *; omega)), by (/-5-/first | (have o1 := gz_sh hs1_3; omega) | (simp only [gz_hd] at *; omega))⟩ (fun c17 => ?_) (fun c17 => ?_)
    · refine gv_run 1 true hD (pcₚ := 33) (lvₚ := [(0, .inr (.inr (some 0)))]) (stₚ := [.inl 0]) (hₚ := gr_h I11 J) (C := (True ∧ True)) rfl ⟨trivial, trivial⟩ ?_
      refine gv_pick [] rfl ?_
      exact L33 I11 J 0 hI11 FI11 FJ (by (/-6-/first | (and_intros; (omega); (omega); (have o1 := gz_sh e1_3; have o2 := gz_sh f1; omega); (have o1 := gz_sh e1_3; have o2 := gz_sh f1; have o3 := gz_sh t13; omega); (omega)) | (simp only [gz_hd] at *; omega)))
    · refine gv_run 2 true hD (pcₚ := 33) (lvₚ := [(0, .inr (.inr (some 0)))]) (stₚ := [.inl 1]) (hₚ := gr_h I11 J) (C := ((True ∧ True) ∧ True)) rfl ⟨⟨trivial, trivial⟩, trivial⟩ ?_
      refine gv_pick [] rfl ?_
      exact L33 I11 J 1 hI11 FI11 FJ (by (/-7-/first | (and_intros; (omega); (omega); (omega); (have o1 := gz_sh e1_3; have o2 := gz_sh hs1_3; have o3 := gz_sh t13; omega); (have o1 := gz_sh hs1_3; omega)) | (simp only [gz_hd] at *; omega)))
  have L13 : ((¬ (0 ≤ a1 ∧ a1 < I 0 1))) → gv_X (gr_E ws0 tb 0 (yX13_noTongue, cX13_noTongue, 2, (some .boolean)) kX13_noTongue) (gv_Q cX13_noTongue (some .boolean) (gr_sh ++ ext) (fun r hₚ => (∃ (Iₚ : gr_I) (Jₚ : gr_J), hₚ = gr_h Iₚ Jₚ ∧ gr_Inv Iₚ ∧ gr_fr [0] [] I Iₚ ∧ gr_fj [0] [] J Jₚ ∧ (∃ z : Int, r = some (.inl z) ∧ 0 ≤ z ∧ z ≤ 1 ∧ (z = 0 → 0 ≤ a1 ∧ a1 < I 0 1 ∧ a1 ≤ 7) ∧ ((z = 0 ∧ (0 ≤ a1 ∧ a1 < I 0 1)) ∨ (z = 1 ∧ ¬ (0 ≤ a1 ∧ a1 < I 0 1))) ∧ (z = Iₚ 0 0))))) (13, [(0, .inr (.inr (some 0)))], [.inr (.inr (some 0))], gr_sh ++ ext, gr_h I J) := by
    intro m_18
    have e0_18 := m_18
    refine gv_run 2 true hD (pcₚ := 18) (lvₚ := [(0, .inr (.inr (some 0)))]) (stₚ := [.inl 1, .inr (.inr (some 0))]) (hₚ := gr_h I J) (C := ((True ∧ True) ∧ True)) rfl ⟨⟨trivial, trivial⟩, trivial⟩ ?_
    exact L18 1 (by (/-8-/first | (and_intros <;> omega) | (simp only [gz_hd] at *; omega)))
  refine gv_run 2 true hD (pcₚ := 2) (lvₚ := [(0, .inr (.inr (some 0))), (1, .inl a1)]) (stₚ := [.inl a1, .inr (.inr (some 0))]) (hₚ := gr_h I J) (C := ((True ∧ True) ∧ True)) rfl ⟨⟨trivial, trivial⟩, trivial⟩ ?_
  refine gv_if_lt (t := 13) hD rfl rfl ⟨by (/-9-/first | omega | (simp only [gz_hd] at *; omega)), by (/-10-/first | omega | (simp only [gz_hd] at *; omega))⟩ (fun c21 => ?_) (fun c21 => ?_)
  · refine gv_pick [0] rfl ?_
    exact L13 (by (/-11-/first | omega | (simp only [gz_hd] at *; omega)))
  · have f22 := gz_hi ((gr_b_0_1 hI))
    refine gv_run 3 true hD (pcₚ := 10) (lvₚ := [(0, .inr (.inr (some 0))), (1, .inl a1)]) (stₚ := [.inl (I 0 1), .inl a1, .inr (.inr (some 0))]) (hₚ := gr_h I J) (C := (((True ∧ True) ∧ True) ∧ True)) rfl ⟨⟨⟨trivial, trivial⟩, trivial⟩, trivial⟩ ?_
    refine gv_icmp_lt (t := 17) hD rfl rfl ⟨⟨by (/-12-/first | omega | (simp only [gz_hd] at *; omega)), by (/-13-/first | omega | (simp only [gz_hd] at *; omega))⟩, ⟨by (/-14-/first | (have o1 := gz_sh f1; omega) | (simp only [gz_hd] at *; omega)), by (/-15-/first | (have o1 := gz_sh f1; omega) | (simp only [gz_hd] at *; omega))⟩⟩ (fun c23 => ?_) (fun c23 => ?_)
    · refine gv_run 1 true hD (pcₚ := 18) (lvₚ := [(0, .inr (.inr (some 0))), (1, .inl a1)]) (stₚ := [.inl 0, .inr (.inr (some 0))]) (hₚ := gr_h I J) (C := (True ∧ True)) rfl ⟨trivial, trivial⟩ ?_
      refine gv_pick [0] rfl ?_
      exact L18 0 (by (/-16-/first | (and_intros; (omega); (omega); (have o1 := gz_sh f1; omega); (omega)) | (simp only [gz_hd] at *; omega)))
    · refine gv_pick [0] rfl ?_
      exact L13 (by (/-17-/first | omega | (simp only [gz_hd] at *; omega)))
